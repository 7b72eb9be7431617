/** Terms, 3: how reinstatements are charged, sentence by sentence. */
final class ChargeEdgeTest {
    public static void main(String[] args) {
        thePartsEndAtMultiplesOfTheLimit();
        thereAreAsManyPartsAsAreTold();
        withoutAnAtNothingIsCharged();
        eachPartIsCutByItself();
        allOfThemAreCutByTheShare();
        theyAreChargedOnWhatIsIncurred();
        theyAreChargedByYears();
        theLimitIsThatOfTheYear();
        chargesDoNotWrapAround();
        Check.end();
    }

    private static void charged(String text, int reserve, int due) {
        LossHouse house = Check.houseWith(text);
        for (int rest = reserve; rest > 0; rest -= 1000000) {
            house.open(0, 0, Math.min(rest, 1000000));
        }
        Check.same("charged by " + text + " for " + reserve, house.used(0, 0, 2), due);
        Check.same("count(8) by " + text + " for " + reserve, house.count(8), due);
    }

    /** "the part up to the limit of the year by itself is the first one, .. up to twice the limit the second one" */
    private static void thePartsEndAtMultiplesOfTheLimit() {
        // the limit of the year is 100; that of the claim is no less than its amount
        String claims = "layer a max(amount, 100) xs 0 reinstate 4 at 100 at 200 at 300 at 50;";
        charged(claims, 0, 0);
        int[] borne = {0, 1, 99, 100, 101, 199, 200, 201, 299, 300, 301, 302, 399, 400, 401, 402, 499, 500, 501, 900};
        int[] due = {0, 1, 99, 100, 102, 298, 300, 303, 597, 600, 600, 601, 649, 650, 650, 650, 650, 650, 650, 650};
        for (int i = 0; i < borne.length; i++) {
            charged(claims, borne[i], due[i]);
        }
    }

    /** "and so on, as many as are told" */
    private static void thereAreAsManyPartsAsAreTold() {
        for (int reinstate = 0; reinstate <= 4; reinstate++) {
            String text = "layer a max(amount, 100) xs 0 reinstate " + reinstate + Check.times(" at 100", reinstate) + ";";
            for (int borne = 50; borne <= 550; borne += 100) {
                charged(text, borne, Math.min(borne, 100 * reinstate));
            }
        }
    }

    /** "(0, if there is no such at)" */
    private static void withoutAnAtNothingIsCharged() {
        charged("layer a max(amount, 100) xs 0 reinstate 3;", 350, 0);
        charged("layer a max(amount, 100) xs 0 reinstate 3 at 10;", 350, 10);
        charged("layer a max(amount, 100) xs 0 reinstate 3 at 10 at 20;", 350, 30);
        charged("layer a max(amount, 100) xs 0 reinstate 3 at 10 at 20 at 30;", 350, 60);
        charged("layer a max(amount, 100) xs 0 reinstate 3 at 0 at 0 at 30;", 350, 30);
        charged("layer a max(amount, 100) xs 0 yearly 500;", 350, 0);
        charged("layer a max(amount, 100) xs 0;", 350, 0);
    }

    /** "each part * the number behind its at / 100 .. is charged, cut each by itself" */
    private static void eachPartIsCutByItself() {
        charged("layer a max(amount, 150) xs 0 reinstate 2 at 1 at 1;", 99, 0);
        charged("layer a max(amount, 150) xs 0 reinstate 2 at 1 at 1;", 100, 1);
        charged("layer a max(amount, 150) xs 0 reinstate 2 at 1 at 1;", 249, 1);
        charged("layer a max(amount, 150) xs 0 reinstate 2 at 1 at 1;", 250, 2);
        charged("layer a max(amount, 150) xs 0 reinstate 2 at 1 at 1;", 300, 2);
        charged("layer a max(amount, 50) xs 0 reinstate 4 at 1 at 1 at 1 at 1;", 200, 0);
    }

    /** "all of them added, * share / 100" */
    private static void allOfThemAreCutByTheShare() {
        charged("layer a max(amount, 100) xs 0 share 50 reinstate 2 at 1 at 1;", 200, 1);
        charged("layer a max(amount, 100) xs 0 share 50 reinstate 2 at 1 at 1;", 199, 0);
        charged("layer a max(amount, 100) xs 0 share 1 reinstate 1 at 99;", 100, 0);
        charged("layer a max(amount, 100) xs 0 share 1 reinstate 1 at 100;", 100, 1);
        charged("layer a max(amount, 100) xs 0 share 99 reinstate 1 at 1;", 100, 0);
        charged("layer a max(amount, 100) xs 0 share 100 reinstate 1 at 1;", 100, 1);
        charged("layer a max(amount, 3) xs 0 share 50 reinstate 1 at 50;", 3, 0);
    }

    /** "on what the claims have incurred" */
    private static void theyAreChargedOnWhatIsIncurred() {
        LossHouse house = Check.houseWith("layer a 100 xs 0 reinstate 1 at 100;");
        house.open(0, 0, 80);
        house.pay(0, 30);
        Check.same("charged", house.used(0, 0, 2), 80);
        house.pay(0, 50);
        Check.same("charged", house.used(0, 0, 2), 80);
        house.setReserve(0, 5);
        Check.same("charged", house.used(0, 0, 2), 85);
        Check.same("count(8)", house.count(8), 85);
    }

    /** "Reinstatements are charged by years" */
    private static void theyAreChargedByYears() {
        LossHouse house = Check.houseWith("layer a 100 xs 0 reinstate 1 at 50; layer b 20 xs 0 reinstate 1 at 100;");
        house.open(0, 0, 60);
        house.nextYear();
        house.open(1, 0, 60);
        house.open(0, 0, 60);
        Check.same("charged in the year 0", house.used(0, 0, 2), 50);
        Check.same("charged in the year 1", house.used(0, 1, 2), 30);
        Check.same("charged by the other in the year 0", house.used(1, 0, 2), 20);
        Check.same("charged in a year without claims", house.used(0, 9, 2), 0);
        Check.same("count(8): all layers and years", house.count(8), 50 + 30 + 20 + 20);
        for (int year = 2; year <= 9; year++) {
            house.nextYear();
        }
        house.open(9, 0, 7);
        Check.same("count(8) with the year 9", house.count(8), 120 + 3 + 7);
    }

    private static void theLimitIsThatOfTheYear() {
        LossHouse house = Check.houseWith("layer a 40 + 60 * line xs 0 yearly 500 reinstate 4 at 100 at 10;");
        house.open(0, 1, 100);
        // the bound is 200, the parts are 40 and 40
        Check.same("charged", house.used(0, 0, 2), 44);
        Check.taught(house, "layer a 60 * line xs 0 yearly 500 reinstate 4 at 100 at 10;");
        Check.same("charged with the limit 0 of the year", house.used(0, 0, 2), 0);
        house.nextYear();
        house.open(1, 0, 1000);
        Check.taught(house, "layer a 70 * year xs 0 reinstate 2 at 100 at 10;");
        Check.same("charged in the year 1", house.used(0, 1, 2), 70);
    }

    /** Products beyond 32 bits on the way to a charge that lies within them. */
    private static void chargesDoNotWrapAround() {
        charged("layer a 1000000 xs 0 reinstate 4 at 300 at 300 at 300 at 300;", 5000000, 12000000);
        charged("layer a 4000000 * 10 xs 0 reinstate 1 at 300;", 40000000, 120000000);
        charged("layer a 4000000 * 10 xs 0 share 99 reinstate 1 at 300;", 40000000, 118800000);
    }
}
