import java.util.function.Supplier;

/** Promise 14, with the rows that promise 15 tells: each plan is held against all rows, done for real on new houses. */
public final class PlanTest {
    private static final int[] MINUTES = {1, 2, 4, 8};

    private final Checks checks = new Checks();

    public static void main(String[] args) {
        new PlanTest().all();
    }

    private void all() {
        plansAreTheFirstOfTheFewest();
        noDipsAtAll();
        nothingChanges();
        whatIsKept();
        vatsTireInAPlan();
        dipsThatMoveNoGrain();
        wrongInputsThrow();
        checks.end();
    }

    private static VatHouse mixed() {
        VatHouse house = Houses.sound(900, 0, 12000, 0, 5000);
        house.charge(1, 30000);
        house.feed(1, 6);
        house.lime(1);
        house.charge(3, 100000);
        house.cloth(20);
        house.cloth(3);
        house.dip(0, 2, 3);
        return house;
    }

    private static VatHouse starving() {
        VatHouse house = new VatHouse();
        house.charge(0, 8000);
        house.charge(5, 3000);
        house.feed(0, 10);
        house.feed(5, 8);
        house.lime(0);
        house.lime(5);
        house.cloth(7);
        house.cloth(50);
        return house;
    }

    private static VatHouse nearlyTired() {
        VatHouse house = Houses.sound(0, 20000, 20000);
        house.cloth(12);
        house.cloth(5);
        house.dip(1, 1, 20);
        house.treat(1, 1);
        house.dip(1, 1, 20);
        house.treat(1, 1);
        house.dip(1, 1, 18);
        house.treat(1, 0);
        return house;
    }

    private void plansAreTheFirstOfTheFewest() {
        for (int cloth = 0; cloth < 2; cloth++) {
            for (int low = 0; low < 200; low += 17) {
                isLikeAllRows(PlanTest::mixed, cloth, low, low);
                isLikeAllRows(PlanTest::mixed, cloth, low, low + 3);
                isLikeAllRows(PlanTest::starving, cloth, low, low + 1);
                isLikeAllRows(PlanTest::nearlyTired, cloth, low, low);
            }
        }
    }

    private void isLikeAllRows(Supplier<VatHouse> made, int cloth, int low, int high) {
        VatHouse house = made.get();
        String call = "plan(" + cloth + ", " + low + ", " + high + ")";
        int dips = house.plan(cloth, low, high, 2);
        int[] row = firstRow(made, cloth, low, high, 2);
        checks.due(call, dips, row == null ? VatHouse.NONE : row.length / 3);
        for (int i = 0; row != null && i < row.length && i < 3 * dips; i++) {
            checks.due(call + " in row, place " + i, house.planned(i / 3, i % 3), row[i]);
        }
    }

    /** Of each dip the vat, the minutes and the shade. */
    private static int[] firstRow(Supplier<VatHouse> made, int cloth, int low, int high, int most) {
        for (int dips = 0; dips <= most; dips++) {
            int rows = 1;
            for (int i = 0; i < dips; i++) {
                rows *= 24;
            }
            for (int number = 0; number < rows; number++) {
                int[] row = done(made.get(), cloth, number, dips, low, high);
                if (row != null) {
                    return row;
                }
            }
        }
        return null;
    }

    private static int[] done(VatHouse house, int cloth, int number, int dips, int low, int high) {
        int[] row = new int[3 * dips];
        int left = number;
        for (int i = dips - 1; i >= 0; i--) {
            row[3 * i] = left % 24 / 4;
            row[3 * i + 1] = MINUTES[left % 4];
            left /= 24;
        }
        for (int i = 0; i < dips; i++) {
            if (house.dip(cloth, row[3 * i], row[3 * i + 1]) < 1) {
                return null;
            }
            house.treat(cloth, 0);
            row[3 * i + 2] = house.about(cloth, 3);
        }
        int shade = house.about(cloth, 3);
        return house.about(cloth, 1) == 0 && shade >= low && shade <= high ? row : null;
    }

    private void noDipsAtAll() {
        VatHouse house = Houses.sound(10000);
        house.cloth(10);
        checks.due("an undyed one for 0", house.plan(0, 0, 0, 0), 0);
        checks.due("no dips for a shade", house.plan(0, 1, 200, 0), VatHouse.NONE);
        house.dip(0, 0, 1);
        checks.due("with LOOSE it is not there", house.plan(0, 0, 0, 0), VatHouse.NONE);
        checks.due("with LOOSE it wants a dip", house.plan(0, 0, 200, 3), 1);
        house.treat(0, 0);
        checks.due("SHADE", house.about(0, 3), 7);
        checks.due("there already", house.plan(0, 7, 7, 3), 0);
        checks.due("there already, in a wide span", house.plan(0, 0, Integer.MAX_VALUE, 3), 0);
        checks.due("it does not go back", house.plan(0, 0, 6, 3), VatHouse.NONE);
        checks.due("above what it holds", house.plan(0, 201, Integer.MAX_VALUE, 3), VatHouse.NONE);
    }

    private void nothingChanges() {
        VatHouse house = mixed();
        VatHouse other = mixed();
        house.plan(0, 100, 100, 3);
        house.plan(1, 150, 199, 3);
        house.plan(1, 0, 0, 3);
        for (int vat = 0; vat < 6; vat++) {
            for (int what = 0; what < 6; what++) {
                checks.due("vat(" + vat + ", " + what + ")", house.vat(vat, what), other.vat(vat, what));
            }
        }
        for (int what = 0; what < 8; what++) {
            checks.due("about(0, " + what + ")", house.about(0, what), other.about(0, what));
            checks.due("about(1, " + what + ")", house.about(1, what), other.about(1, what));
        }
        checks.due("THE DRAIN", house.count(1), other.count(1));
    }

    private void whatIsKept() {
        VatHouse house = Houses.sound(10000);
        house.cloth(10);
        house.cloth(10);
        house.treat(1, 2);
        checks.due("a plan", house.plan(0, 22, 24, 3), 2);
        checks.due("a DRY CLOTH", house.plan(1, 0, 0, 3), VatHouse.NONE);
        checks.due("what was kept stays", house.planned(1, 1), 2);
        checks.due("there is none", house.plan(0, 199, 199, 1), VatHouse.NONE);
        checks.noSuch("none is kept", () -> house.planned(0, 0));
        house.plan(0, 22, 24, 3);
        checks.due("none is wanted", house.plan(0, 0, 0, 3), 0);
        checks.noSuch("a row without dips", () -> house.planned(0, 0));
    }

    /** 59 minutes ahead: the third dip finds the vat TIRED, and gives half. */
    private void vatsTireInAPlan() {
        VatHouse house = Houses.sound(100000);
        house.cloth(50);
        house.cloth(50);
        for (int minutes : new int[] {20, 20, 19}) {
            house.dip(0, 0, minutes);
            house.treat(0, 1);
        }
        int best = bestShade(house);
        VatHouse real = Houses.sound(100000);
        real.cloth(50);
        real.cloth(50);
        for (int minutes : new int[] {20, 20, 19}) {
            real.dip(0, 0, minutes);
            real.treat(0, 1);
        }
        for (int i = 0; i < 3; i++) {
            real.dip(1, 0, 8);
            real.treat(1, 0);
        }
        checks.due("the most by three dips", best, real.about(1, 3));
    }

    private static int bestShade(VatHouse house) {
        for (int shade = 200; shade >= 0; shade--) {
            if (house.plan(1, shade, shade, 3) == 3) {
                return house.planned(2, 2);
            }
        }
        return VatHouse.NONE;
    }

    /** Such a dip would be enough to have the LOOSE aired, but it can't be in a plan. */
    private void dipsThatMoveNoGrain() {
        VatHouse full = Houses.sound(10000);
        full.cloth(1);
        full.dip(0, 0, 20);
        checks.due("a full CLOTH", full.plan(0, 0, 200, 3), VatHouse.NONE);
        VatHouse sick = Houses.sound(10000);
        sick.cloth(10);
        sick.dip(0, 0, 1);
        sick.feed(0, 1000);
        checks.due("SICK VATS", sick.plan(0, 0, 200, 3), VatHouse.NONE);
        VatHouse single = Houses.sound(101);
        single.cloth(1);
        checks.due("a dip of one grain", single.plan(0, 1, 1, 1), 1);
        VatHouse thin = Houses.sound(100, 101);
        thin.cloth(1);
        checks.due("a dip of one grain in another", thin.plan(0, 1, 1, 1), 1);
        checks.due("for 2 minutes in the first one", thin.planned(0, 1), 2);
    }

    private void wrongInputsThrow() {
        VatHouse house = Houses.sound(10000);
        house.cloth(10);
        checks.noSuch("plan(1, 0, 0, 0)", () -> house.plan(1, 0, 0, 0));
        checks.noSuch("plan(-1, 0, 0, 4)", () -> house.plan(-1, 0, 0, 4));
        checks.illegal("plan(0, 0, 0, 4)", () -> house.plan(0, 0, 0, 4));
        checks.illegal("plan(0, 0, 0, -1)", () -> house.plan(0, 0, 0, -1));
        checks.illegal("plan(0, -1, 0, 1)", () -> house.plan(0, -1, 0, 1));
        checks.illegal("plan(0, 5, 4, 1)", () -> house.plan(0, 5, 4, 1));
        house.plan(0, 22, 24, 3);
        checks.illegal("plan(0, 5, 4, 3)", () -> house.plan(0, 5, 4, 3));
        checks.due("what was kept stays", house.planned(1, 1), 2);
        house.treat(0, 2);
        checks.illegal("a DRY one, plan(0, 5, 4, 1)", () -> house.plan(0, 5, 4, 1));
    }
}
