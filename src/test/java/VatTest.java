/** Promise 16. */
public final class VatTest {
    public static void main(String[] args) {
        Checks checks = new Checks();
        VatHouse house = Houses.sound(0, 10000, 500);
        for (int i = 0; i < 30; i++) {
            house.cloth(10);
        }
        house.dip(0, 1, 3);
        house.dip(29, 1, 4);
        house.dip(29, 1, 1);
        int[] due = {10000 - 272 - 353 - 85, 487, 8, Houses.SOUND, 3, 1 << 29 | 1};
        for (int what = 0; what < 6; what++) {
            checks.due("vat(1, " + what + ")", house.vat(1, what), due[what]);
        }
        checks.due("DIPS of another", house.vat(2, 4), 0);
        checks.due("CLOTHS of another", house.vat(2, 5), 0);
        house.dip(3, 2, 1);
        checks.due("a dip of 4 grains", house.vat(2, 5), 8);
        checks.due("its GRAINS", house.vat(2, 0), 496);
        house.hours(3);
        checks.due("DIPS ever", house.vat(1, 4), 3);
        checks.noSuch("vat(6, 0)", () -> house.vat(6, 0));
        checks.noSuch("vat(-1, 0)", () -> house.vat(-1, 0));
        checks.noSuch("vat(0, 6)", () -> house.vat(0, 6));
        checks.noSuch("vat(0, -1)", () -> house.vat(0, -1));
        checks.end();
    }
}
