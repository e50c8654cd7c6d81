/** Promise 17. */
public final class AboutTest {
    public static void main(String[] args) {
        Checks checks = new Checks();
        VatHouse house = Houses.sound(10000, 0, 0, 0, 0, 10000);
        house.cloth(9);
        house.cloth(10);
        tells(checks, house, 0, new int[] {9, 0, 0, 0, 0, VatHouse.NONE, 0, 0});
        house.dip(1, 0, 1);
        house.treat(1, 0);
        house.dip(1, 5, 2);
        tells(checks, house, 1, new int[] {10, 181, 79, 7, 0, VatHouse.NONE, 33, 2});
        house.hours(100);
        house.treat(1, 2);
        tells(checks, house, 1, new int[] {10, 0, 238, 23, 1, 4, 33, 2});
        tells(checks, house, 0, new int[] {9, 0, 0, 0, 0, VatHouse.NONE, 0, 0});
        house.hours(100);
        checks.due("its DAY stays", house.about(1, 5), 4);
        checks.noSuch("about(2, 0)", () -> house.about(2, 0));
        checks.noSuch("about(-1, 0)", () -> house.about(-1, 0));
        checks.noSuch("about(0, 8)", () -> house.about(0, 8));
        checks.noSuch("about(0, -1)", () -> house.about(0, -1));
        checks.end();
    }

    private static void tells(Checks checks, VatHouse house, int cloth, int[] due) {
        for (int what = 0; what < due.length; what++) {
            checks.due("about(" + cloth + ", " + what + ")", house.about(cloth, what), due[what]);
        }
    }
}
