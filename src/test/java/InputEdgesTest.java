/** The edges of the numbers that promises 2 to 18 take: of VATS, CLOTHS, RECIPES, hours and bytes, and what. */
public final class InputEdgesTest {
    private static final int MIN = Integer.MIN_VALUE;
    private static final int MAX = Integer.MAX_VALUE;
    private static final int[] NO_VATS = {MIN, -1, 6, 7, MAX};

    private final Checks checks = new Checks();

    public static void main(String[] args) {
        new InputEdgesTest().all();
    }

    private void all() {
        vats();
        cloths();
        theCloth();
        whatOfAVat();
        whatOfACloth();
        whatOfTheHouse();
        whatOfARun();
        whatOfAFault();
        whatOfATreatment();
        grains();
        hours();
        bytesOfTheTape();
        bytesOfARecipe();
        numbersOfRecipes();
        recipesThatWereNotRead();
        bothExceptions();
        checks.end();
    }

    private void vats() {
        checks.sentence("NoSuchElementException: no such VAT (as everywhere)");
        VatHouse house = Houses.sound(1010, 0, 0, 0, 0, 1010);
        house.cloth(1);
        for (int vat : NO_VATS) {
            checks.noSuch("charge(" + vat + ", 1)", () -> house.charge(vat, 1));
            checks.noSuch("feed(" + vat + ", 1)", () -> house.feed(vat, 1));
            checks.noSuch("lime(" + vat + ")", () -> house.lime(vat));
            checks.noSuch("dip(0, " + vat + ", 1)", () -> house.dip(0, vat, 1));
            checks.noSuch("vat(" + vat + ", 0)", () -> house.vat(vat, 0));
        }
        for (int vat = 0; vat <= 5; vat += 5) {
            checks.due("vat(" + vat + ", 0)", house.vat(vat, 0), 1010);
            checks.due("dip(0, " + vat + ", 1)", house.dip(0, vat, 1), 10);
            checks.due("charge(" + vat + ", 1)", house.charge(vat, 1), 1001);
            checks.due("feed(" + vat + ", 1)", house.feed(vat, 1), Houses.SOUND);
            checks.due("lime(" + vat + ")", house.lime(vat), Houses.SOUND);
        }
    }

    private void cloths() {
        checks.sentence("NoSuchElementException: also no such CLOTH (as everywhere)");
        VatHouse house = Houses.sound(1010);
        Houses.read(house, 0, "wash;");
        noClothAt(house, 0);
        house.cloth(1);
        house.cloth(1);
        house.cloth(0);
        noClothAt(house, -1);
        noClothAt(house, 2);
        noClothAt(house, 3);
        noClothAt(house, 29);
        noClothAt(house, 30);
        noClothAt(house, MIN);
        noClothAt(house, MAX);
    }

    private void noClothAt(VatHouse house, int cloth) {
        checks.noSuch("dip(" + cloth + ")", () -> house.dip(cloth, 0, 1));
        checks.noSuch("treat(" + cloth + ")", () -> house.treat(cloth, 0));
        checks.noSuch("run(" + cloth + ")", () -> house.run(0, cloth, 9));
        checks.noSuch("plan(" + cloth + ")", () -> house.plan(cloth, 0, 0, 0));
        checks.noSuch("about(" + cloth + ")", () -> house.about(cloth, 0));
        checks.noSuch("faded(" + cloth + ")", () -> house.faded(cloth, 0, 0));
        checks.noSuch("matching(" + cloth + ")", () -> house.matching(cloth, 0));
    }

    private void theCloth() {
        checks.sentence("CLOTHS, from 0 on");
        VatHouse house = Houses.sound(100000);
        Houses.read(house, 0, "wash;");
        for (int i = 0; i < 30; i++) {
            house.cloth(1);
        }
        for (int cloth = 0; cloth < 30; cloth += 29) {
            checks.due("dip", house.dip(cloth, 0, 1), 200);
            checks.due("run", house.run(0, cloth, 9), 0);
            checks.due("plan", house.plan(cloth, 0, 0, 0), 0);
            checks.due("dry", house.treat(cloth, 2), 0);
            checks.due("about", house.about(cloth, 4), 1);
            checks.due("faded", house.faded(cloth, 0, 0), 0);
            checks.due("matching", house.matching(cloth, 0), cloth == 0 ? 0 : 1);
        }
        checks.due("the CLOTHS that were dipped, as bits", house.vat(0, 5), 1 << 29 | 1);
    }

    private void whatOfAVat() {
        checks.sentence("5 the CLOTHS that were ever dipped in it, as bits. NoSuchElementException: another what.");
        VatHouse house = Houses.sound(1010);
        house.cloth(1);
        house.cloth(1);
        house.dip(1, 0, 2);
        int[] due = {990, 493, 2, Houses.SOUND, 1, 2};
        for (int what = 0; what < 6; what++) {
            checks.due("vat(0, " + what + ")", house.vat(0, what), due[what]);
        }
        for (int what : new int[] {MIN, -1, 6, 7, MAX}) {
            checks.noSuch("vat(0, " + what + ")", () -> house.vat(0, what));
            checks.noSuch("vat(6, " + what + ")", () -> house.vat(6, what));
        }
    }

    private void whatOfACloth() {
        checks.sentence("6 the VATS in which it was dipped, as bits, 7 DIPS. NoSuchElementException: another what.");
        VatHouse house = Houses.sound(1010, 0, 0, 0, 0, 1010);
        house.cloth(1);
        house.dip(0, 0, 1);
        house.dip(0, 5, 1);
        house.dip(0, 5, 1);
        int[] due = {1, 29, 0, 0, 0, VatHouse.NONE, 33, 3};
        for (int what = 0; what < 8; what++) {
            checks.due("about(0, " + what + ")", house.about(0, what), due[what]);
        }
        for (int what : new int[] {MIN, -1, 8, 9, MAX}) {
            checks.noSuch("about(0, " + what + ")", () -> house.about(0, what));
            checks.noSuch("about(1, " + what + ")", () -> house.about(1, what));
        }
    }

    private void whatOfTheHouse() {
        checks.sentence("5 STEPS of a RECIPE that was read latest. NoSuchElementException: another what.");
        VatHouse house = new VatHouse();
        house.hours(3);
        house.cloth(1);
        house.charge(2, 77);
        Houses.read(house, 1, "wash;wash;");
        house.put(0, 0, 0, 0, 0);
        int[] due = {3, 0, 1, 77, 20, 2};
        for (int what = 0; what < 6; what++) {
            checks.due("count(" + what + ")", house.count(what), due[what]);
        }
        for (int what : new int[] {MIN, -1, 6, 7, MAX}) {
            checks.noSuch("count(" + what + ")", () -> house.count(what));
        }
    }

    private void whatOfARun() {
        checks.sentence("0 what it was (NONE without one), 1 the FAILURE's number (0)");
        VatHouse house = new VatHouse();
        for (int what = 0; what < 6; what++) {
            checks.due("ran(" + what + ") without a run", house.ran(what), what == 0 ? VatHouse.NONE : 0);
        }
        house.cloth(1);
        Houses.runText(house, "rest 2;fail 1;", 9);
        int[] due = {1, 101, 4, 0, 0, 2};
        for (int what = 0; what < 6; what++) {
            checks.due("ran(" + what + ")", house.ran(what), due[what]);
        }
        for (int what : new int[] {MIN, -1, 6, 7, MAX}) {
            checks.noSuch("ran(" + what + ")", () -> house.ran(what));
        }
    }

    private void whatOfAFault() {
        checks.sentence("0 its FAULT, 1 the place (NONE without). NoSuchElementException: another what.");
        VatHouse house = new VatHouse();
        Houses.read(house, 0, "air;rest 0;");
        checks.due("fault(0)", house.fault(0), 2);
        checks.due("fault(1)", house.fault(1), 9);
        for (int what : new int[] {MIN, -1, 2, 3, MAX}) {
            checks.noSuch("fault(" + what + ")", () -> house.fault(what));
        }
        Houses.read(house, 0, "");
        checks.due("fault(0) of a good one", house.fault(0), 0);
        checks.due("fault(1) of a good one", house.fault(1), VatHouse.NONE);
    }

    private void whatOfATreatment() {
        checks.sentence("AIRED (what 0), WASHED (1), DRIED (2)");
        for (int what : new int[] {MIN, -1, 0, 1, 2, 3, MAX}) {
            VatHouse house = Houses.ready();
            house.cloth(1);
            Houses.dye(house, 0, 0, 16);
            if (what < 0 || what > 2) {
                checks.illegal("treat(0, " + what + ")", () -> house.treat(0, what));
            } else {
                checks.due("treat(0, " + what + ")", house.treat(0, what), what == 1 ? 16 : 2);
            }
            boolean air = what == 0 || what == 2;
            checks.due("LOOSE", house.about(0, 1), air || what == 1 ? 0 : 16);
            checks.due("FAST", house.about(0, 2), air ? 14 : 0);
            checks.due("DRY", house.about(0, 4), what == 2 ? 1 : 0);
            house.treat(0, 2);
            if (what < 0 || what > 2) {
                checks.illegal("treat(0, " + what + ") of a DRY one", () -> house.treat(0, what));
            } else {
                checks.due("treat(0, " + what + ") of a DRY one", house.treat(0, what), VatHouse.NONE);
            }
        }
    }

    private void grains() {
        checks.sentence("NONE: n is below 1, or it would have more than 1,000,000");
        VatHouse house = new VatHouse();
        for (int n : new int[] {MIN, -1, 0, 1000001, MAX}) {
            checks.due("charge(0, " + n + ")", house.charge(0, n), VatHouse.NONE);
            checks.due("GRAINS then", house.vat(0, 0), 0);
            checks.due("grains put in ever", house.count(3), 0);
        }
        checks.due("charge(0, 1)", house.charge(0, 1), 1);
        checks.due("charge(0, 2)", house.charge(0, 2), 3);
        checks.due("charge(0, 999998)", house.charge(0, 999998), VatHouse.NONE);
        checks.due("charge(0, MAX)", house.charge(0, MAX), VatHouse.NONE);
        checks.due("charge(0, 999997)", house.charge(0, 999997), 1000000);
        checks.due("charge(0, 1) of a full one", house.charge(0, 1), VatHouse.NONE);
        checks.due("charge(0, 0) of a full one", house.charge(0, 0), VatHouse.NONE);
        for (int vat = 1; vat < 6; vat++) {
            checks.due("a full VAT " + vat, house.charge(vat, 1000000), 1000000);
        }
        checks.due("grains put in ever, six VATS full", house.count(3), 6000000);
    }

    private void hours() {
        checks.sentence("IllegalArgumentException: n is not 0 to 10000");
        VatHouse house = new VatHouse();
        int hours = 0;
        for (int n : new int[] {MIN, -1, 0, 1, 2, 9999, 10000, 10001, MAX}) {
            if (n < 0 || n > 10000) {
                checks.illegal("hours(" + n + ")", () -> house.hours(n));
            } else {
                hours += n;
                checks.due("hours(" + n + ")", house.hours(n), hours);
            }
            checks.due("HOURS", house.count(0), hours);
        }
        VatHouse still = Houses.withFood(Houses.TIRED, 100);
        still.hours(0);
        checks.due("FOOD behind no hour", still.vat(0, 1), 100);
        checks.due("STATE behind no hour", still.vat(0, 3), Houses.TIRED);
        VatHouse late = new VatHouse();
        for (int i = 1; i <= 500; i++) {
            late.hours(10000);
        }
        checks.due("the latest hour", late.count(0), 5000000);
        late.cloth(1);
        late.treat(0, 2);
        checks.due("the latest DAY", late.about(0, 5), 5000000 / 24);
        checks.due("the DAY ahead of it", late.faded(0, 5000000 / 24 - 1, 0), VatHouse.NONE);
        checks.due("that DAY", late.faded(0, 5000000 / 24, 0), 0);
    }

    private void bytesOfTheTape() {
        checks.sentence("how many it has; NONE, and none come, if it would have more than 1,500");
        VatHouse house = new VatHouse();
        for (int i = 1; i <= 77; i++) {
            checks.due("put " + i, house.put(0, 0, 0, 0, 0), i <= 75 ? 20 * i : VatHouse.NONE);
            checks.due("bytes", house.count(4), Math.min(20 * i, 1500));
        }
        checks.illegal("1501 of them", () -> house.recipe(0, 1501));
        checks.due("1500 of them", house.recipe(0, 1500), 1);
        checks.due("bytes then", house.count(4), 0);
        checks.due("put behind that", house.put(0, 0, 0, 0, 0), 20);
        checks.sentence("of each number the highest first");
        VatHouse order = new VatHouse();
        order.put(0x72657374, 0x20312020, 0x0a0a0a0a, 0x20202020, 0x2020203b);
        checks.due("'rest 1 .. ;' by its bytes", order.recipe(0, 20), 0);
        checks.due("its STEPS", order.count(5), 1);
        order.put(0x20202020, 0x20202020, 0x20202020, 0x20202020, 0x77617368);
        order.put(0x3b000000, 0, 0, 0, 0);
        checks.due("'wash;' over two puts", order.recipe(0, 21), 0);
        order.put(0x77617368, 0x3b202020, -1, 0, 0);
        checks.due("its first 8 bytes alone", order.recipe(0, 8), 0);
        order.put(0x77617368, 0x3b202020, -1, 0, 0);
        checks.due("a byte of -1", order.recipe(0, 9), 1);
        checks.due("its place", order.fault(1), 8);
    }

    private void bytesOfARecipe() {
        checks.sentence("the tape has not so many, n below 0 (nothing changes)");
        for (int n : new int[] {MIN, -1, 0, 1, 3, 4, 5, 19, 20, 21, MAX}) {
            VatHouse house = new VatHouse();
            Houses.write(house, "air;                ");
            if (n < 0 || n > 20) {
                checks.illegal("recipe(0, " + n + ")", () -> house.recipe(0, n));
                checks.due("the tape's bytes", house.count(4), 20);
                checks.due("fault(1)", house.fault(1), VatHouse.NONE);
            } else {
                int due = n > 0 && n < 4 ? 1 : 0;
                checks.due("recipe(0, " + n + ")", house.recipe(0, n), due);
                checks.due("the tape's bytes, taken", house.count(4), 0);
                checks.due("fault(1) of " + n, house.fault(1), due == 0 ? VatHouse.NONE : n == 3 ? 3 : 0);
                checks.due("STEPS of " + n, house.count(5), n >= 4 ? 1 : 0);
            }
        }
        VatHouse empty = new VatHouse();
        checks.illegal("recipe(0, 1) of no tape", () -> empty.recipe(0, 1));
        checks.due("recipe(0, 0) of no tape", empty.recipe(0, 0), 0);
    }

    private void numbersOfRecipes() {
        checks.sentence("RECIPE r (0 to 7), in place of what it was");
        VatHouse house = new VatHouse();
        house.cloth(1);
        for (int r = 0; r < 8; r++) {
            checks.due("ahead", house.run(r, 0, 9), VatHouse.NONE);
            checks.due("recipe " + r, Houses.read(house, r, "fail " + (r + 1) + ";"), 0);
        }
        for (int r : new int[] {MIN, -1, 8, 9, MAX}) {
            checks.illegal("recipe(" + r + ", 0)", () -> house.recipe(r, 0));
            checks.due("run(" + r + ", 0, 9)", house.run(r, 0, 9), VatHouse.NONE);
        }
        for (int r = 0; r < 8; r++) {
            checks.due("run " + r, house.run(r, 0, 9), 1);
            checks.due("its FAILURE", house.ran(1), 101 + r);
        }
        Houses.read(house, 7, "fail 50;");
        Houses.read(house, 0, "fail 60");
        house.run(7, 0, 9);
        checks.due("in place of what it was", house.ran(1), 150);
        house.run(0, 0, 9);
        checks.due("it stays as it was at a FAULT", house.ran(1), 101);
        house.run(6, 0, 9);
        checks.due("the others stay", house.ran(1), 107);
    }

    private void recipesThatWereNotRead() {
        checks.sentence("no such RECIPE (or none was read)");
        VatHouse house = new VatHouse();
        house.cloth(1);
        Houses.read(house, 3, "fail 1");
        checks.due("one with a FAULT", house.run(3, 0, 9), VatHouse.NONE);
        Houses.read(house, 3, "fail 1;");
        checks.due("one that was read", house.run(3, 0, 9), 1);
        checks.due("the one ahead of it", house.run(2, 0, 9), VatHouse.NONE);
        checks.due("the one behind it", house.run(4, 0, 9), VatHouse.NONE);
        checks.due("the latest run stays", house.ran(1), 101);
        house.recipe(3, 0);
        checks.due("one without STEPS was read", house.run(3, 0, 9), 0);
    }

    /** Where both exceptions would be due, the document does not say which; the face's order names this one first. */
    private void bothExceptions() {
        checks.sentence("throws NoSuchElementException, IllegalArgumentException");
        VatHouse house = new VatHouse();
        checks.noSuch("feed(6, 0)", () -> house.feed(6, 0));
        checks.noSuch("dip(0, 0, 0)", () -> house.dip(0, 0, 0));
        checks.noSuch("treat(0, 3)", () -> house.treat(0, 3));
        checks.noSuch("plan(0, 1, 0, 4)", () -> house.plan(0, 1, 0, 4));
        checks.noSuch("faded(0, -1, 2)", () -> house.faded(0, -1, 2));
        checks.noSuch("matching(0, -1)", () -> house.matching(0, -1));
        checks.noSuch("run(8, 0, 0)", () -> house.run(8, 0, 0));
    }
}
