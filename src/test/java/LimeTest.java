/** Promise 4. */
public final class LimeTest {
    public static void main(String[] args) {
        Checks checks = new Checks();
        curesIfThereIsFood(checks);
        halvesFoodOfAny(checks);
        setsMinutesOfTheSick(checks);
        VatHouse house = new VatHouse();
        checks.noSuch("lime(-1)", () -> house.lime(-1));
        checks.noSuch("lime(6)", () -> house.lime(6));
        checks.end();
    }

    private static void curesIfThereIsFood(Checks checks) {
        VatHouse house = new VatHouse();
        checks.due("lime without FOOD", house.lime(0), Houses.SICK);
        house.feed(1, 1);
        checks.due("lime with 1 FOOD", house.lime(1), Houses.TIRED);
        checks.due("half of 1", house.vat(1, 1), 0);
        house.feed(2, 7);
        checks.due("lime with 7 FOOD", house.lime(2), Houses.TIRED);
        checks.due("half of 7", house.vat(2, 1), 3);
    }

    private static void halvesFoodOfAny(Checks checks) {
        VatHouse house = Houses.sound(1000);
        house.cloth(1);
        house.dip(0, 0, 5);
        checks.due("lime of a SOUND one", house.lime(0), Houses.SOUND);
        checks.due("its FOOD", house.vat(0, 1), 245);
        checks.due("its MINUTES", house.vat(0, 2), 5);
        VatHouse tired = Houses.tired(1000);
        checks.due("lime of a TIRED one", tired.lime(0), Houses.TIRED);
        checks.due("FOOD of it", tired.vat(0, 1), 250);
    }

    private static void setsMinutesOfTheSick(Checks checks) {
        VatHouse house = Houses.sound(1000);
        house.cloth(1);
        house.dip(0, 0, 20);
        house.feed(0, 1000);
        checks.due("MINUTES ahead", house.vat(0, 2), 20);
        checks.due("lime of an overfed one", house.lime(0), Houses.TIRED);
        checks.due("MINUTES behind", house.vat(0, 2), 0);
        checks.due("FOOD behind", house.vat(0, 1), 500);

        VatHouse starved = new VatHouse();
        starved.charge(0, 1000);
        starved.feed(0, 20);
        starved.lime(0);
        starved.cloth(1);
        starved.dip(0, 0, 20);
        checks.due("MINUTES of the starved one", starved.vat(0, 2), 20);
        checks.due("lime of the starved one", starved.lime(0), Houses.SICK);
        checks.due("its MINUTES behind", starved.vat(0, 2), 0);
    }
}
