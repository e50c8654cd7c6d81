/** Promise 19. */
public final class FadedTest {
    public static void main(String[] args) {
        Checks checks = new Checks();
        VatHouse house = Houses.sound(10000);
        house.cloth(1);
        house.hours(50);
        house.dip(0, 0, 20);
        checks.due("not DRY", house.faded(0, 5, 0), VatHouse.NONE);
        house.treat(0, 2);
        checks.due("its DAY", house.about(0, 5), 2);
        checks.due("its SHADE", house.about(0, 3), 175);
        checks.due("a DAY ahead of its own", house.faded(0, 1, 0), VatHouse.NONE);
        checks.due("a DAY ahead of its own, greatest", house.faded(0, 0, 1), VatHouse.NONE);
        int[][] due = {{2, 175, 175}, {35, 175, 175}, {36, 174, 175}, {68, 174, 175}, {69, 173, 175},
            {101, 173, 175}, {102, 172, 174}, {5835, 1, 117}, {5836, 0, 117}, {17501, 0, 1}, {17502, 0, 0},
            {1000000, 0, 0}};
        for (int[] row : due) {
            checks.due("least at " + row[0], house.faded(0, row[0], 0), row[1]);
            checks.due("greatest at " + row[0], house.faded(0, row[0], 1), row[2]);
        }
        house.cloth(1);
        checks.illegal("faded(0, 2, 2)", () -> house.faded(0, 2, 2));
        checks.illegal("faded(0, 2, -1)", () -> house.faded(0, 2, -1));
        checks.illegal("faded(0, -1, 0)", () -> house.faded(0, -1, 0));
        checks.illegal("faded(0, 1000001, 0)", () -> house.faded(0, 1000001, 0));
        checks.illegal("faded(1, 1000001, 0), not DRY", () -> house.faded(1, 1000001, 0));
        checks.noSuch("faded(2, 2, 0)", () -> house.faded(2, 2, 0));
        checks.noSuch("faded(-1, 2, 0)", () -> house.faded(-1, 2, 0));
        checks.noSuch("faded(2, -1, 5)", () -> house.faded(2, -1, 5));
        checks.end();
    }
}
