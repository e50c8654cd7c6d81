/** The edges of "Terms" 1 for TO DIP, by dip() and by a run. */
public final class DipEdgesTest {
    private final Checks checks = new Checks();

    public static void main(String[] args) {
        new DipEdgesTest().all();
    }

    private void all() {
        minutesOfADip();
        wholeGrains();
        halfWhenTired();
        asManyAsItCanHold();
        tiredAboveSixty();
        tiredStaysTired();
        sickWithoutFood();
        foodlessButNotSick();
        byTheStateAhead();
        sickVatsAndDryCloths();
        checks.end();
    }

    private void minutesOfADip() {
        checks.sentence("TO DIP a CLOTH in a VAT for m minutes (1 to 20)");
        for (int m : new int[] {Integer.MIN_VALUE, -1, 0, 1, 2, 19, 20, 21, Integer.MAX_VALUE}) {
            VatHouse house = Houses.sound(1010);
            house.cloth(1);
            boolean fits = m >= 1 && m <= 20;
            if (fits) {
                checks.due("dip of " + m, house.dip(0, 0, m), 10 * m);
            } else {
                checks.illegal("dip of " + m, () -> house.dip(0, 0, m));
            }
            checks.due("MINUTES then", house.vat(0, 2), fits ? m : 0);
            checks.due("FOOD then", house.vat(0, 1), fits ? 495 - m : 495);
            checks.due("LOOSE then", house.about(0, 1), fits ? 10 * m : 0);
        }
    }

    private void wholeGrains() {
        checks.sentence("GRAINS * m / (100 and its WEIGHT), cut down");
        int[][] due = {{1, 1, 100, 0}, {1, 1, 101, 1}, {1, 1, 102, 1}, {1, 1, 201, 1}, {1, 1, 202, 2}, {1, 1, 203, 2},
            {1, 2, 50, 0}, {1, 2, 51, 1}, {1, 20, 5, 0}, {1, 20, 6, 1}, {50, 1, 149, 0}, {50, 1, 150, 1},
            {50, 1, 151, 1}, {50, 20, 7, 0}, {50, 20, 8, 1}, {50, 20, 74999, 9999}, {50, 20, 75000, 10000},
            {50, 20, 75001, 10000}, {50, 20, 1000000, 10000}, {49, 3, 9999, 201}};
        for (int[] row : due) {
            VatHouse house = Houses.sound(row[2]);
            house.cloth(row[0]);
            String call = "WEIGHT " + row[0] + ", " + row[1] + " minutes, GRAINS " + row[2];
            checks.due(call, house.dip(0, 0, row[1]), row[3]);
            checks.due("GRAINS left of " + call, house.vat(0, 0), row[2] - row[3]);
            checks.due("LOOSE by " + call, house.about(0, 1), row[3]);
        }
        VatHouse empty = Houses.ready();
        empty.cloth(1);
        checks.due("a dip without GRAINS", empty.dip(0, 0, 20), 0);
        checks.due("is a dip of the VAT", empty.vat(0, 4), 1);
        checks.due("is a dip of the CLOTH", empty.about(0, 7), 1);
    }

    private void halfWhenTired() {
        checks.sentence("half of it, cut down, if the VAT is TIRED");
        for (int whole = 0; whole <= 5; whole++) {
            VatHouse tired = Houses.tired(101 * whole + 100);
            tired.cloth(1);
            checks.due("half of " + whole, tired.dip(0, 0, 1), whole / 2);
            VatHouse sound = Houses.sound(101 * whole + 100);
            sound.cloth(1);
            checks.due("all of " + whole + ", SOUND", sound.dip(0, 0, 1), whole);
        }
    }

    private void asManyAsItCanHold() {
        checks.sentence("at most as many as it can hold more");
        for (int more = 1; more <= 4; more++) {
            VatHouse house = Houses.ready();
            house.cloth(1);
            Houses.fasten(house, 0, 0, 100);
            Houses.dye(house, 0, 1, 97);
            checks.due("FAST", house.about(0, 2), 100);
            checks.due("LOOSE", house.about(0, 1), 97);
            house.charge(2, 101 * more);
            checks.due("a dip of " + more + " where 3 have room", house.dip(0, 2, 1), Math.min(more, 3));
            checks.due("GRAINS left", house.vat(2, 0), 101 * more - Math.min(more, 3));
            checks.due("one more where " + (3 - Math.min(more, 3)) + " have room",
                dipOf(house, 3, 1), more >= 3 ? 0 : 1);
        }
        for (int whole = 396; whole <= 404; whole++) {
            VatHouse house = Houses.tired(101 * whole);
            house.cloth(1);
            checks.due("half of " + whole + " on an empty one", house.dip(0, 0, 1), Math.min(whole / 2, 200));
        }
    }

    private static int dipOf(VatHouse house, int vat, int grains) {
        house.charge(vat, 101 * grains);
        return house.dip(0, vat, 1);
    }

    private void tiredAboveSixty() {
        checks.sentence("MINUTES are m more; above 60 the VAT is TIRED");
        for (int last = 18; last <= 20; last++) {
            for (int first = 20; first <= 21; first++) {
                VatHouse house = Houses.sound(10000);
                house.cloth(50);
                house.dip(0, 0, 20);
                house.dip(0, 0, first - 1);
                house.dip(0, 0, 1);
                house.dip(0, 0, last);
                int minutes = 20 + first + last;
                checks.due("MINUTES", house.vat(0, 2), minutes);
                checks.due("STATE at " + minutes, house.vat(0, 3), minutes > 60 ? Houses.TIRED : Houses.SOUND);
            }
        }
        for (int last = 1; last <= 4; last++) {
            VatHouse byRun = Houses.sound(10000);
            byRun.cloth(50);
            Houses.runText(byRun, "dip 0 20;dip 0 20;dip 0 18;dip 0 " + last + ";", 9);
            checks.due("MINUTES by a run", byRun.vat(0, 2), 58 + last);
            checks.due("STATE by it", byRun.vat(0, 3), last > 2 ? Houses.TIRED : Houses.SOUND);
        }
    }

    private void tiredStaysTired() {
        checks.sentence("above 60 the VAT is TIRED");
        VatHouse house = Houses.tired(10000);
        house.cloth(50);
        house.dip(0, 0, 1);
        checks.due("a TIRED one with 1 MINUTE", house.vat(0, 3), Houses.TIRED);
    }

    private void sickWithoutFood() {
        checks.sentence("FOOD is m less; below 1 it is 0, and the VAT is SICK");
        for (int state = Houses.SOUND; state <= Houses.TIRED; state++) {
            for (int food = 5; food <= 9; food++) {
                VatHouse house = Houses.withFood(state, food);
                house.cloth(1);
                house.dip(0, 0, 7);
                checks.due("FOOD of " + food + " less 7", house.vat(0, 1), Math.max(0, food - 7));
                checks.due("STATE with it", house.vat(0, 3), food > 7 ? state : Houses.SICK);
                checks.due("MINUTES with it", house.vat(0, 2), 7);
            }
        }
        VatHouse both = Houses.withFood(Houses.SOUND, 61);
        both.cloth(1);
        both.dip(0, 0, 20);
        both.dip(0, 0, 20);
        both.dip(0, 0, 20);
        checks.due("60 MINUTES and FOOD 1", both.vat(0, 3), Houses.SOUND);
        both.dip(0, 0, 1);
        checks.due("61 MINUTES and FOOD 0", both.vat(0, 3), Houses.SICK);
    }

    private void foodlessButNotSick() {
        checks.sentence("A SICK VAT, or a DRY CLOTH, isn't dipped.");
        for (int state = Houses.SOUND; state <= Houses.TIRED; state++) {
            VatHouse house = Houses.withFood(state, 0);
            house.charge(0, 404);
            house.cloth(1);
            checks.due("a dip in one that lime left without FOOD", house.dip(0, 0, 1), 4 / (1 + state));
            checks.due("its STATE", house.vat(0, 3), Houses.SICK);
            checks.due("another dip", house.dip(0, 0, 1), VatHouse.NONE);
        }
    }

    private void byTheStateAhead() {
        checks.sentence("(All else by the STATE ahead.)");
        VatHouse tires = Houses.ready();
        tires.cloth(1);
        for (int i = 0; i < 3; i++) {
            tires.dip(0, 0, 20);
        }
        tires.charge(0, 1010);
        checks.due("the dip that makes it TIRED", tires.dip(0, 0, 1), 10);
        checks.due("the one behind it", tires.dip(0, 0, 1), 1000 / 101 / 2);
        VatHouse starves = Houses.withFood(Houses.SOUND, 3);
        starves.charge(0, 1010);
        starves.cloth(1);
        checks.due("the dip that makes it SICK", starves.dip(0, 0, 20), 200);
        checks.due("the one behind it", starves.dip(0, 0, 1), VatHouse.NONE);
    }

    private void sickVatsAndDryCloths() {
        checks.sentence("A SICK VAT, or a DRY CLOTH, isn't dipped.");
        VatHouse house = Houses.sound(1010, 1010);
        house.cloth(1);
        house.cloth(1);
        house.feed(1, 1000);
        house.treat(1, 2);
        checks.due("SICK VAT", house.dip(0, 1, 5), VatHouse.NONE);
        checks.due("DRY CLOTH", house.dip(1, 0, 5), VatHouse.NONE);
        checks.due("both", house.dip(1, 1, 5), VatHouse.NONE);
        for (int vat = 0; vat < 2; vat++) {
            checks.due("GRAINS of " + vat, house.vat(vat, 0), 1010);
            checks.due("FOOD of " + vat, house.vat(vat, 1), vat == 0 ? 495 : 1000);
            checks.due("MINUTES of " + vat, house.vat(vat, 2), 0);
            checks.due("DIPS of " + vat, house.vat(vat, 4), 0);
            checks.due("CLOTHS of " + vat, house.vat(vat, 5), 0);
            checks.due("LOOSE of " + vat, house.about(vat, 1), 0);
            checks.due("VATS of " + vat, house.about(vat, 6), 0);
            checks.due("DIPS of CLOTH " + vat, house.about(vat, 7), 0);
        }
        checks.due("neither", house.dip(0, 0, 5), 50);
    }
}
