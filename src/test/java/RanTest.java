/** Promise 13. */
public final class RanTest {
    public static void main(String[] args) {
        Checks checks = new Checks();
        VatHouse house = Houses.sound(10000);
        house.cloth(10);
        house.dip(0, 0, 1);
        Houses.read(house, 1, "dip 0 2;air;rest 2;dip 0 3;wash;fail 8;");
        Houses.read(house, 2, "wash;");
        house.run(1, 0, 100);
        int[] failed = {1, 108, 8, 2, 180 + 265, 2};
        tells(checks, house, "a run that failed", failed);
        house.dip(0, 0, 5);
        house.hours(5);
        tells(checks, house, "calls behind the run", failed);
        house.run(2, 0, 1);
        tells(checks, house, "the latest run", new int[] {0, 0, 1, 0, 0, 0});
        house.run(1, 0, 5);
        tells(checks, house, "a run that ended", new int[] {2, 0, 5, 1, house.ran(4), 2});
        checks.noSuch("ran(6)", () -> house.ran(6));
        checks.noSuch("ran(-1)", () -> house.ran(-1));
        checks.end();
    }

    private static void tells(Checks checks, VatHouse house, String of, int[] due) {
        for (int what = 0; what < 6; what++) {
            checks.due("ran(" + what + ") of " + of, house.ran(what), due[what]);
        }
    }
}
