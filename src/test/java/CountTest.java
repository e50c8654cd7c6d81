/** Promise 18. */
public final class CountTest {
    public static void main(String[] args) {
        Checks checks = new Checks();
        VatHouse house = Houses.sound(10000, 700);
        house.hours(4);
        house.cloth(10);
        house.cloth(11);
        house.cloth(99);
        house.charge(0, -3);
        house.dip(0, 0, 7);
        house.treat(0, 0);
        Houses.read(house, 4, "times 2{wash;}");
        house.put(0, 0, 0, 0, 0);
        int[] due = {5, 79, 2, 10700, 20, 2};
        for (int what = 0; what < 6; what++) {
            checks.due("count(" + what + ")", house.count(what), due[what]);
        }
        Houses.read(house, 4, "wash;wash;wash;wash");
        checks.due("STEPS of the one that was read", house.count(5), 2);
        checks.due("the tape", house.count(4), 0);
        Houses.read(house, 5, "");
        checks.due("STEPS of an empty one", house.count(5), 0);
        checks.noSuch("count(6)", () -> house.count(6));
        checks.noSuch("count(-1)", () -> house.count(-1));
        checks.end();
    }
}
