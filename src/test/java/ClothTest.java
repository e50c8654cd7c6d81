/** Promise 6. */
public final class ClothTest {
    public static void main(String[] args) {
        Checks checks = new Checks();
        VatHouse house = new VatHouse();
        checks.due("cloth(0)", house.cloth(0), VatHouse.NONE);
        checks.due("cloth(-1)", house.cloth(-1), VatHouse.NONE);
        checks.due("cloth(51)", house.cloth(51), VatHouse.NONE);
        checks.due("cloth(1)", house.cloth(1), 0);
        checks.due("cloth(50)", house.cloth(50), 1);
        for (int i = 2; i < 30; i++) {
            checks.due("cloth " + i, house.cloth(i), i);
        }
        checks.due("the 31st", house.cloth(5), VatHouse.NONE);
        checks.due("CLOTHS", house.count(2), 30);
        checks.due("the last one's WEIGHT", house.about(29, 0), 29);
        checks.due("the second one's WEIGHT", house.about(1, 0), 50);
        checks.end();
    }
}
