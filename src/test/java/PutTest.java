/** Promise 9. */
public final class PutTest {
    public static void main(String[] args) {
        Checks checks = new Checks();
        VatHouse house = new VatHouse();
        for (int i = 1; i <= 75; i++) {
            checks.due("put " + i, house.put(0, -1, 2, Integer.MIN_VALUE, Integer.MAX_VALUE), 20 * i);
        }
        checks.due("put above 1500", house.put(0, 0, 0, 0, 0), VatHouse.NONE);
        checks.due("bytes of the tape", house.count(4), 1500);
        house.recipe(0, 0);
        checks.due("put on the empty tape", house.put(0, 0, 0, 0, 0), 20);
        house.recipe(0, 0);
        bytesStandInOrder(checks, house);
        checks.end();
    }

    /** Each of the twenty bytes in its turn is the first that can't stand there. */
    private static void bytesStandInOrder(Checks checks, VatHouse house) {
        String text = "air;wash;rest 2;air;";
        checks.due("the twenty bytes", Houses.read(house, 0, text), 0);
        checks.due("their STEPS", house.count(5), 4);
        for (int i = 0; i < 20; i++) {
            int[] numbers = {0x20202020, 0x20202020, 0x20202020, 0x20202020, 0x20202020};
            numbers[i / 4] ^= 0xff << 24 - 8 * (i % 4);
            checks.due("put", house.put(numbers[0], numbers[1], numbers[2], numbers[3], numbers[4]), 20);
            checks.due("FAULT", house.recipe(0, 20), 1);
            checks.due("its place", house.fault(1), i);
        }
    }
}
