/** Promise 20. */
public final class MatchingTest {
    public static void main(String[] args) {
        Checks checks = new Checks();
        spansMeet(checks);
        allOfThem(checks);
        wrongInputsThrow(checks);
        checks.end();
    }

    /** CLOTH i has the SHADE i * 2, but 4 is not DRY, and 5 (SHADE 4, like 2) is DRY on day 40 only. */
    private static VatHouse withShades() {
        VatHouse house = Houses.sound(101);
        for (int i = 0; i < 4; i++) {
            house.cloth(1);
            dye(house, i, 2 * i);
            house.treat(i, 2);
        }
        house.cloth(1);
        house.cloth(1);
        dye(house, 4, 4);
        dye(house, 5, 4);
        house.hours(40 * 24);
        house.treat(5, 2);
        return house;
    }

    private static void dye(VatHouse house, int cloth, int shade) {
        for (int i = 0; i < shade; i++) {
            house.charge(0, 101 - house.vat(0, 0));
            house.dip(cloth, 0, 1);
            house.treat(cloth, 0);
        }
    }

    private static void spansMeet(Checks checks) {
        VatHouse house = withShades();
        for (int i = 0; i < 4; i++) {
            checks.due("SHADE of " + i, house.about(i, 3), 2 * i);
            checks.due("DAY of " + i, house.about(i, 5), 0);
        }
        checks.due("DAY of 5", house.about(5, 5), 40);
        checks.due("spans of one SHADE", house.matching(1, 0), 0);
        checks.due("1 to 2 and 3 to 4, day 66", house.matching(1, 66), 0);
        checks.due("0 to 2 meets 0 and 2 to 4, day 67", house.matching(1, 67), 1 | 4);
        checks.due("2 to 4 meets 0 to 2, 4 to 6 and 4, day 67", house.matching(2, 67), 2 | 8 | 32);
        checks.due("0 meets 0 to 2, day 67", house.matching(0, 67), 2);
        checks.due("5 meets those at its own day", house.matching(5, 40), 4);
        checks.due("2 meets 5 at that day", house.matching(2, 40), 32);
        checks.due("not at the day ahead", house.matching(2, 39), 0);
        checks.due("5 has no span yet", house.matching(5, 39), 0);
        checks.due("one that isn't DRY", house.matching(4, 67), 0);
        checks.due("all are faded", house.matching(3, 1000000), 1 | 2 | 4 | 32);
    }

    private static void allOfThem(Checks checks) {
        VatHouse house = new VatHouse();
        for (int i = 0; i < 30; i++) {
            house.cloth(1 + i);
            house.treat(i, 2);
        }
        checks.due("all others", house.matching(29, 0), (1 << 29) - 1);
        checks.due("all others of 0", house.matching(0, 0), (1 << 30) - 2);
    }

    private static void wrongInputsThrow(Checks checks) {
        VatHouse house = new VatHouse();
        house.cloth(1);
        checks.illegal("matching(0, -1)", () -> house.matching(0, -1));
        checks.illegal("matching(0, 1000001)", () -> house.matching(0, 1000001));
        checks.noSuch("matching(1, 0)", () -> house.matching(1, 0));
        checks.noSuch("matching(-1, 0)", () -> house.matching(-1, 0));
        checks.noSuch("matching(1, -1)", () -> house.matching(1, -1));
    }
}
