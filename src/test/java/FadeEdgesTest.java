/** The edges of "Terms" 4 for FADED, and of promises 19 and 20. */
public final class FadeEdgesTest {
    private static final int[] DAYS = {0, 1, 32, 33, 34, 35, 65, 66, 67, 68, 99, 100, 101, 132, 133, 134, 199, 200, 201,
        5800, 5833, 5834, 17499, 17500, 17501, 999999, 1000000};

    private final Checks checks = new Checks();

    public static void main(String[] args) {
        new FadeEdgesTest().all();
    }

    private void all() {
        bothAreCutDown();
        itsOwnDay();
        notDry();
        daysAndWhats();
        spansThatMeet();
        spansAtTheEnd();
        othersThanIt();
        withoutASpan();
        daysOfMatching();
        checks.end();
    }

    /** CLOTHS of WEIGHT 1 with these SHADES, DRY on DAY 0. */
    private static VatHouse withShades(int... shades) {
        VatHouse house = Houses.ready();
        for (int i = 0; i < shades.length; i++) {
            house.cloth(1);
            Houses.fasten(house, i, i, shades[i]);
            house.treat(i, 2);
        }
        return house;
    }

    private void bothAreCutDown() {
        checks.sentence("from its SHADE less 3 * d / 100, to its SHADE less d / 100 (both cut down, "
            + "the SHADES 0 at least)");
        int[] shades = {0, 1, 2, 3, 174, 175};
        VatHouse house = withShades(shades);
        for (int i = 0; i < shades.length; i++) {
            checks.due("SHADE of " + i, house.about(i, 3), shades[i]);
            for (int d : DAYS) {
                int least = Math.max(0, shades[i] - 3 * d / 100);
                checks.due("the least of " + shades[i] + " at " + d, house.faded(i, d, 0), least);
                int greatest = Math.max(0, shades[i] - d / 100);
                checks.due("the greatest of " + shades[i] + " at " + d, house.faded(i, d, 1), greatest);
            }
        }
    }

    private void itsOwnDay() {
        checks.sentence("NONE: it isn't DRY, or the DAY is ahead of its own");
        for (int hours : new int[] {0, 23, 24, 47, 48, 2399, 2400, 2401}) {
            VatHouse house = Houses.ready();
            house.cloth(1);
            Houses.fasten(house, 0, 0, 50);
            house.hours(Math.max(0, hours - 1));
            house.treat(0, 2);
            int day = Math.max(1, hours) / 24;
            checks.due("its DAY", house.about(0, 5), day);
            for (int what = 0; what <= 1; what++) {
                if (day > 0) {
                    checks.due("the DAY ahead of " + day, house.faded(0, day - 1, what), VatHouse.NONE);
                    checks.due("DAY 0, ahead of " + day, house.faded(0, 0, what), VatHouse.NONE);
                }
                checks.due("at its own DAY", house.faded(0, day, what), 50);
                checks.due("a DAY later", house.faded(0, day + 1, what), 50);
                checks.due("100 DAYS later", house.faded(0, day + 100, what), what == 0 ? 47 : 49);
            }
            house.hours(5000);
            checks.due("it goes by the DAY that is asked, not by now", house.faded(0, day, 0), 50);
        }
    }

    private void notDry() {
        checks.sentence("NONE: it isn't DRY");
        VatHouse house = Houses.ready();
        house.cloth(1);
        Houses.fasten(house, 0, 0, 50);
        for (int day : new int[] {0, 1, 1000000}) {
            checks.due("the least of a wet one", house.faded(0, day, 0), VatHouse.NONE);
            checks.due("the greatest of a wet one", house.faded(0, day, 1), VatHouse.NONE);
        }
        house.treat(0, 2);
        checks.due("a DRY one", house.faded(0, 0, 0), 50);
    }

    private void daysAndWhats() {
        checks.sentence("IllegalArgumentException: another what, a DAY that is not 0 to 1,000,000");
        VatHouse house = withShades(50);
        house.cloth(1);
        for (int cloth = 0; cloth <= 1; cloth++) {
            int asked = cloth;
            for (int day : new int[] {Integer.MIN_VALUE, -1, 1000001, Integer.MAX_VALUE}) {
                checks.illegal("faded(" + cloth + ", " + day + ", 0)", () -> house.faded(asked, day, 0));
                checks.illegal("faded(" + cloth + ", " + day + ", 1)", () -> house.faded(asked, day, 1));
            }
            for (int what : new int[] {Integer.MIN_VALUE, -1, 2, Integer.MAX_VALUE}) {
                checks.illegal("faded(" + cloth + ", 0, " + what + ")", () -> house.faded(asked, 0, what));
            }
        }
        checks.due("DAY 0", house.faded(0, 0, 0), 50);
        checks.due("DAY 1,000,000", house.faded(0, 1000000, 0), 0);
        checks.due("DAY 999,999", house.faded(0, 999999, 1), 0);
    }

    /** Of SHADES k apart the spans meet when the greater one's least is not above the less one's greatest. */
    private void spansThatMeet() {
        checks.sentence("whose spans meet a CLOTH's at a DAY");
        VatHouse house = withShades(60, 61, 62, 63, 64, 65);
        for (int day : new int[] {0, 33, 34, 66, 67, 99, 100, 133, 134, 166, 167, 199, 200, 250}) {
            int apart = 3 * day / 100 - day / 100;
            for (int i = 0; i < 6; i++) {
                int due = 0;
                for (int j = 0; j < 6; j++) {
                    due |= j != i && Math.abs(i - j) <= apart ? 1 << j : 0;
                }
                checks.due("matching(" + i + ", " + day + ")", house.matching(i, day), due);
            }
        }
    }

    private void spansAtTheEnd() {
        checks.sentence("the SHADES 0 at least");
        VatHouse house = withShades(0, 1, 10);
        int[][] due = {{0, 0, 0}, {0, 33, 0}, {0, 34, 2}, {0, 333, 2}, {0, 334, 6}, {2, 333, 0}, {2, 334, 3},
            {1, 99, 1}, {1, 300, 1}, {1, 334, 5}, {2, 1000, 3}, {2, 1000000, 3}};
        for (int[] row : due) {
            checks.due("matching(" + row[0] + ", " + row[1] + ")", house.matching(row[0], row[1]), row[2]);
        }
    }

    private void othersThanIt() {
        checks.sentence("The DRY CLOTHS (others than it)");
        VatHouse house = new VatHouse();
        for (int i = 0; i < 30; i++) {
            house.cloth(1);
            house.treat(i, 2);
            checks.due("matching(" + i + ") of so many", house.matching(i, 0), (1 << i) - 1);
        }
        for (int i = 0; i < 30; i++) {
            checks.due("matching(" + i + ") of 30", house.matching(i, 0), ((1 << 30) - 1) & ~(1 << i));
        }
    }

    private void withoutASpan() {
        checks.sentence("0 if it has none itself, too");
        VatHouse house = Houses.ready();
        for (int i = 0; i < 4; i++) {
            house.cloth(1);
        }
        house.treat(0, 2);
        house.treat(1, 2);
        checks.due("a wet one", house.matching(3, 1), 0);
        checks.due("a DRY one does not meet a wet one", house.matching(0, 1), 2);
        house.hours(48);
        house.treat(2, 2);
        for (int day = 0; day <= 3; day++) {
            checks.due("one that is DRY since DAY 2, at " + day, house.matching(2, day), day < 2 ? 0 : 3);
            checks.due("one that is DRY since DAY 0, at " + day, house.matching(0, day), day < 2 ? 2 : 6);
        }
    }

    private void daysOfMatching() {
        checks.sentence("IllegalArgumentException: a DAY that is not 0 to 1,000,000");
        VatHouse house = withShades(50, 50);
        house.cloth(1);
        for (int day : new int[] {Integer.MIN_VALUE, -1, 1000001, Integer.MAX_VALUE}) {
            checks.illegal("matching(0, " + day + ")", () -> house.matching(0, day));
            checks.illegal("matching(2, " + day + "), not DRY", () -> house.matching(2, day));
        }
        for (int day : new int[] {0, 1, 999999, 1000000}) {
            checks.due("matching(0, " + day + ")", house.matching(0, day), 2);
        }
    }
}
