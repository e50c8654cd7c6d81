/** Promise 7. */
public final class DipTest {
    public static void main(String[] args) {
        Checks checks = new Checks();
        grainsMove(checks);
        clothsAreFull(checks);
        vatsTire(checks);
        vatsStarve(checks);
        someAreNotDipped(checks);
        wrongInputsThrow(checks);
        checks.end();
    }

    private static void grainsMove(Checks checks) {
        VatHouse house = Houses.sound(10000);
        house.cloth(10);
        checks.due("10000 * 7 / 110", house.dip(0, 0, 7), 636);
        checks.due("GRAINS", house.vat(0, 0), 9364);
        checks.due("LOOSE", house.about(0, 1), 636);
        checks.due("FAST", house.about(0, 2), 0);
        checks.due("MINUTES", house.vat(0, 2), 7);
        checks.due("FOOD", house.vat(0, 1), 488);
        VatHouse full = Houses.sound(1000000);
        full.cloth(50);
        checks.due("the fullest vat", full.dip(0, 0, 20), 10000);
        VatHouse tired = Houses.tired(10000);
        tired.cloth(10);
        checks.due("half of 272, when TIRED", tired.dip(0, 0, 3), 136);
        checks.due("half of 89 (9864 / 110)", tired.dip(0, 0, 1), 44);
    }

    private static void clothsAreFull(Checks checks) {
        VatHouse house = Houses.sound(10000);
        house.cloth(1);
        checks.due("as many as it holds", house.dip(0, 0, 20), 200);
        checks.due("a full one", house.dip(0, 0, 1), 0);
        checks.due("that was a dip, too", house.vat(0, 4), 2);
        checks.due("with its MINUTES", house.vat(0, 2), 21);
        checks.due("and its FOOD", house.vat(0, 1), 474);
        house.treat(0, 0);
        checks.due("FAST counts as held", house.dip(0, 0, 20), 25);
        VatHouse tired = Houses.tired(10000);
        tired.cloth(1);
        checks.due("the half is taken ahead of the most", tired.dip(0, 0, 4), 198);
    }

    private static void vatsTire(Checks checks) {
        VatHouse house = Houses.sound(100000);
        house.cloth(50);
        house.dip(0, 0, 20);
        house.treat(0, 1);
        house.dip(0, 0, 20);
        house.treat(0, 1);
        house.dip(0, 0, 20);
        house.treat(0, 1);
        checks.due("60 MINUTES", house.vat(0, 2), 60);
        checks.due("SOUND at 60", house.vat(0, 3), Houses.SOUND);
        int grains = house.vat(0, 0);
        checks.due("by the STATE ahead", house.dip(0, 0, 1), grains / 150);
        checks.due("TIRED at 61", house.vat(0, 3), Houses.TIRED);
        grains = house.vat(0, 0);
        checks.due("half when TIRED", house.dip(0, 0, 1), grains / 150 / 2);
    }

    private static void vatsStarve(Checks checks) {
        VatHouse house = new VatHouse();
        house.charge(0, 10000);
        house.feed(0, 42);
        house.lime(0);
        house.cloth(10);
        house.dip(0, 0, 20);
        checks.due("1 FOOD left", house.vat(0, 1), 1);
        checks.due("is enough", house.vat(0, 3), Houses.TIRED);
        checks.due("the last dip by the STATE ahead", house.dip(0, 0, 1), (10000 - 909) / 110 / 2);
        checks.due("FOOD 0", house.vat(0, 1), 0);
        checks.due("SICK", house.vat(0, 3), Houses.SICK);
        VatHouse both = new VatHouse();
        both.charge(0, 10000);
        both.feed(0, 130);
        both.lime(0);
        both.cloth(10);
        both.dip(0, 0, 20);
        both.dip(0, 0, 20);
        both.dip(0, 0, 20);
        both.dip(0, 0, 20);
        checks.due("FOOD not below 0", both.vat(0, 1), 0);
        checks.due("SICK, though above 60 MINUTES", both.vat(0, 3), Houses.SICK);
        checks.due("its MINUTES", both.vat(0, 2), 80);
    }

    private static void someAreNotDipped(Checks checks) {
        VatHouse house = Houses.sound(1000);
        house.charge(1, 1000);
        house.cloth(10);
        checks.due("in a SICK VAT", house.dip(0, 1, 5), VatHouse.NONE);
        checks.due("no DIP of it", house.vat(1, 4), 0);
        checks.due("no MINUTES of it", house.vat(1, 2), 0);
        house.treat(0, 2);
        checks.due("a DRY CLOTH", house.dip(0, 0, 5), VatHouse.NONE);
        checks.due("no DIP of that", house.vat(0, 4), 0);
        checks.due("its GRAINS stay", house.vat(0, 0), 1000);
        checks.due("its FOOD stays", house.vat(0, 1), 495);
    }

    private static void wrongInputsThrow(Checks checks) {
        VatHouse house = Houses.sound(1000);
        house.cloth(10);
        checks.noSuch("dip(1, 0, 1)", () -> house.dip(1, 0, 1));
        checks.noSuch("dip(-1, 0, 1)", () -> house.dip(-1, 0, 1));
        checks.noSuch("dip(0, 6, 1)", () -> house.dip(0, 6, 1));
        checks.noSuch("dip(0, -1, 1)", () -> house.dip(0, -1, 1));
        checks.noSuch("dip(1, 6, 0)", () -> house.dip(1, 6, 0));
        checks.illegal("dip(0, 0, 0)", () -> house.dip(0, 0, 0));
        checks.illegal("dip(0, 0, 21)", () -> house.dip(0, 0, 21));
        checks.illegal("dip(0, 1, 21) in a SICK VAT", () -> house.dip(0, 1, 21));
        checks.due("dip(0, 0, 20)", house.dip(0, 0, 20), 181);
        checks.due("dip(0, 0, 1)", house.dip(0, 0, 1), 7);
    }
}
