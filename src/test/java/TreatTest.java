/** Promise 8. */
public final class TreatTest {
    public static void main(String[] args) {
        Checks checks = new Checks();
        VatHouse house = Houses.sound(10000);
        house.cloth(10);
        house.dip(0, 0, 7);
        checks.due("air: 636 / 8", house.treat(0, 0), 79);
        checks.due("FAST", house.about(0, 2), 557);
        checks.due("LOOSE", house.about(0, 1), 0);
        checks.due("air without LOOSE", house.treat(0, 0), 0);
        house.dip(0, 0, 1);
        checks.due("LOOSE again", house.about(0, 1), 85);
        checks.due("wash: 85 and 557 / 20", house.treat(0, 1), 112);
        checks.due("FAST behind the wash", house.about(0, 2), 530);
        checks.due("LOOSE behind the wash", house.about(0, 1), 0);
        checks.due("THE DRAIN", house.count(1), 191);
        house.hours(47);
        house.dip(0, 0, 1);
        checks.due("dry: 84 / 8", house.treat(0, 2), 10);
        checks.due("FAST behind it", house.about(0, 2), 604);
        checks.due("DRY", house.about(0, 4), 1);
        checks.due("its DAY, in hour 48", house.about(0, 5), 2);
        checks.due("THE DRAIN at last", house.count(1), 201);
        for (int what = 0; what < 3; what++) {
            checks.due("a DRY one, " + what, house.treat(0, what), VatHouse.NONE);
        }
        checks.due("FAST of the DRY one", house.about(0, 2), 604);
        checks.illegal("treat(0, 3)", () -> house.treat(0, 3));
        checks.illegal("treat(0, -1)", () -> house.treat(0, -1));
        checks.noSuch("treat(1, 0)", () -> house.treat(1, 0));
        checks.noSuch("treat(-1, 0)", () -> house.treat(-1, 0));
        checks.noSuch("treat(1, 3)", () -> house.treat(1, 3));
        house.cloth(3);
        checks.due("an undyed one dried", house.treat(1, 2), 0);
        checks.due("is DRY", house.about(1, 4), 1);
        checks.end();
    }
}
