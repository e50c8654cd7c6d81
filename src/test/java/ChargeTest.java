/** Promise 2. */
public final class ChargeTest {
    public static void main(String[] args) {
        Checks checks = new Checks();
        VatHouse house = new VatHouse();
        checks.due("charge(0, 1)", house.charge(0, 1), 1);
        checks.due("charge(0, 999998)", house.charge(0, 999998), 999999);
        checks.due("charge(0, 2)", house.charge(0, 2), VatHouse.NONE);
        checks.due("GRAINS stay", house.vat(0, 0), 999999);
        checks.due("charge(0, 1) to the brim", house.charge(0, 1), 1000000);
        checks.due("charge(0, 1) above it", house.charge(0, 1), VatHouse.NONE);
        checks.due("charge(5, 1000001)", house.charge(5, 1000001), VatHouse.NONE);
        checks.due("charge(5, 1000000)", house.charge(5, 1000000), 1000000);
        checks.due("charge(5, MAX)", house.charge(5, Integer.MAX_VALUE), VatHouse.NONE);
        checks.due("charge(1, 0)", house.charge(1, 0), VatHouse.NONE);
        checks.due("charge(1, -5)", house.charge(1, -5), VatHouse.NONE);
        checks.due("charge(1, MIN)", house.charge(1, Integer.MIN_VALUE), VatHouse.NONE);
        checks.due("grains put in ever", house.count(3), 2000000);
        checks.due("it stays SICK", house.vat(0, 3), Houses.SICK);
        checks.noSuch("charge(-1, 1)", () -> house.charge(-1, 1));
        checks.noSuch("charge(6, 1)", () -> house.charge(6, 1));
        checks.noSuch("charge(6, 0)", () -> house.charge(6, 0));
        checks.end();
    }
}
