/** Promise 15. */
public final class PlannedTest {
    public static void main(String[] args) {
        Checks checks = new Checks();
        VatHouse house = Houses.sound(0, 10000);
        house.cloth(10);
        checks.due("plan", house.plan(0, 22, 24, 3), 2);
        checks.due("first VAT", house.planned(0, 0), 1);
        checks.due("first minutes", house.planned(0, 1), 1);
        checks.due("first SHADE: 90 less 11", house.planned(0, 2), 7);
        checks.due("second VAT", house.planned(1, 0), 1);
        checks.due("second minutes", house.planned(1, 1), 2);
        checks.due("second SHADE: 79, and 180 less 22", house.planned(1, 2), 23);
        checks.noSuch("planned(2, 0)", () -> house.planned(2, 0));
        checks.noSuch("planned(3, 0)", () -> house.planned(3, 0));
        checks.noSuch("planned(-1, 0)", () -> house.planned(-1, 0));
        checks.noSuch("planned(0, 3)", () -> house.planned(0, 3));
        checks.noSuch("planned(0, -1)", () -> house.planned(0, -1));
        house.dip(0, 1, 20);
        checks.due("it is kept behind other calls", house.planned(1, 2), 23);
        checks.end();
    }
}
