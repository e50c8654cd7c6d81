/** Promise 11. */
public final class FaultTest {
    public static void main(String[] args) {
        Checks checks = new Checks();
        VatHouse house = new VatHouse();
        Houses.read(house, 0, "air;  lime 7;");
        checks.due("FAULT", house.fault(0), 2);
        checks.due("its place", house.fault(1), 11);
        Houses.read(house, 0, "air;  limes 7;");
        checks.due("another FAULT", house.fault(0), 1);
        checks.due("another place", house.fault(1), 6);
        Houses.read(house, 1, "air;");
        checks.due("no FAULT", house.fault(0), 0);
        checks.due("no place", house.fault(1), VatHouse.NONE);
        Houses.read(house, 0, "?");
        checks.due("a FAULT at the first byte", house.fault(1), 0);
        checks.noSuch("fault(2)", () -> house.fault(2));
        checks.noSuch("fault(-1)", () -> house.fault(-1));
        checks.end();
    }
}
