/** Promise 1. */
public final class NewObjectTest {
    public static void main(String[] args) {
        Checks checks = new Checks();
        VatHouse house = new VatHouse();
        for (int vat = 0; vat < 6; vat++) {
            for (int what = 0; what < 6; what++) {
                checks.due("vat(" + vat + ", " + what + ")", house.vat(vat, what), what == 3 ? Houses.SICK : 0);
            }
        }
        for (int what = 0; what < 6; what++) {
            checks.due("count(" + what + ")", house.count(what), 0);
            checks.due("ran(" + what + ")", house.ran(what), what == 0 ? VatHouse.NONE : 0);
        }
        checks.due("fault(0)", house.fault(0), 0);
        checks.due("fault(1)", house.fault(1), VatHouse.NONE);
        checks.noSuch("about(0, 0)", () -> house.about(0, 0));
        checks.noSuch("planned(0, 0)", () -> house.planned(0, 0));
        house.cloth(1);
        for (int recipe = 0; recipe < 8; recipe++) {
            checks.due("run without a recipe", house.run(recipe, 0, 10), VatHouse.NONE);
        }
        checks.due("ran(0) behind runs of none", house.ran(0), VatHouse.NONE);
        twoHousesAreApart(checks);
        checks.end();
    }

    private static void twoHousesAreApart(Checks checks) {
        VatHouse one = Houses.sound(1000);
        VatHouse two = new VatHouse();
        one.cloth(1);
        checks.due("the other house's grains", two.vat(0, 0), 0);
        checks.due("the other house's hours", two.count(0), 0);
        checks.due("the other house's cloths", two.count(2), 0);
    }
}
