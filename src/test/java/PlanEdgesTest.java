/** The edges of "Terms" 4 for PLAN, and of promises 14 and 15. */
public final class PlanEdgesTest {
    private static final int MAX = Integer.MAX_VALUE;

    private final Checks checks = new Checks();

    public static void main(String[] args) {
        new PlanEdgesTest().all();
    }

    private void all() {
        minutesOfADip();
        spans();
        atMostSoManyDips();
        thereAlready();
        thereButLoose();
        theFewest();
        firstByVats();
        thenByMinutes();
        theFirstDipFirst();
        vatsTire();
        vatsStarve();
        sickVats();
        dipsThatMoveNoGrain();
        inputs();
        whatIsKept();
        whichDipAndWhat();
        checks.end();
    }

    /** By VAT 0 alone, 100 grains a minute at first: behind 1, 2, 4 and 8 minutes the SHADE is 1, 3, 7 and 14. */
    private static VatHouse oneVat() {
        VatHouse house = Houses.sound(15000);
        house.cloth(50);
        return house;
    }

    private void dips(String row, VatHouse house, int... due) {
        for (int i = 0; i < due.length; i++) {
            checks.due(row + ", planned(" + i / 3 + ", " + i % 3 + ")", house.planned(i / 3, i % 3), due[i]);
        }
        checks.noSuch(row + ", one more", () -> house.planned(due.length / 3, 0));
    }

    private void minutesOfADip() {
        checks.sentence("each with a VAT and 1, 2, 4 or 8 minutes, AIRED behind each");
        VatHouse house = oneVat();
        for (int shade = 1; shade <= 200; shade++) {
            boolean there = shade == 1 || shade == 3 || shade == 7 || shade == 14;
            checks.due("one dip to " + shade, house.plan(0, shade, shade, 1), there ? 1 : VatHouse.NONE);
            if (there) {
                dips("one dip to " + shade, house, 0, (shade + 2) / 2, shade);
            }
        }
    }

    private void spans() {
        checks.sentence("so that the SHADE is in a span at the end");
        VatHouse house = oneVat();
        int[][] due = {{14, 14, 1}, {13, 14, 1}, {14, 15, 1}, {13, 15, 1}, {8, 13, VatHouse.NONE},
            {15, 200, VatHouse.NONE}, {13, 13, VatHouse.NONE}, {15, 15, VatHouse.NONE}, {14, MAX, 1},
            {15, MAX, VatHouse.NONE}, {MAX, MAX, VatHouse.NONE}};
        for (int[] row : due) {
            checks.due("one dip from " + row[0] + " to " + row[1], house.plan(0, row[0], row[1], 1), row[2]);
        }
        VatHouse deep = Houses.sound(1000000);
        deep.cloth(50);
        checks.due("the deepest of three dips", deep.plan(0, 200, 200, 3), VatHouse.NONE);
        checks.due("the deepest of one dip", deep.plan(0, 175, 175, 1), 1);
        dips("the deepest of one dip", deep, 0, 2, 175);
        VatHouse small = Houses.sound(1000000);
        small.cloth(1);
        checks.due("200 by three dips", small.plan(0, 200, 200, 3), 3);
        dips("200 by three dips", small, 0, 1, 175, 0, 1, 197, 0, 1, 200);
        checks.due("201", small.plan(0, 201, 201, 3), VatHouse.NONE);
    }

    private void atMostSoManyDips() {
        checks.sentence("PLAN of at most so many DIPS");
        int[] shades = {14, 27, 39};
        for (int wanted = 1; wanted <= 3; wanted++) {
            for (int most = 0; most <= 3; most++) {
                VatHouse house = oneVat();
                int shade = shades[wanted - 1];
                checks.due(most + " dips to " + shade, house.plan(0, shade, shade, most),
                    most < wanted ? VatHouse.NONE : wanted);
            }
        }
        VatHouse house = oneVat();
        house.plan(0, 39, 39, 3);
        dips("three dips", house, 0, 8, 14, 0, 8, 27, 0, 8, 39);
        checks.due("three dips to 40", house.plan(0, 40, 40, 3), VatHouse.NONE);
    }

    private void thereAlready() {
        checks.sentence("(0 if it is there already, without LOOSE)");
        for (int most = 0; most <= 3; most++) {
            VatHouse house = Houses.ready();
            house.cloth(2);
            Houses.fasten(house, 0, 0, 11);
            checks.due("from 5 to 5", house.plan(0, 5, 5, most), 0);
            checks.due("from 4 to 5", house.plan(0, 4, 5, most), 0);
            checks.due("from 5 to 6", house.plan(0, 5, 6, most), 0);
            checks.due("from 0 to 4", house.plan(0, 0, 4, most), VatHouse.NONE);
            checks.due("from 6 to 6 without dips", house.plan(0, 6, 6, 0), VatHouse.NONE);
        }
        VatHouse undyed = oneVat();
        checks.due("an undyed one from 0 to 0", undyed.plan(0, 0, 0, 3), 0);
        checks.due("an undyed one from 0 on", undyed.plan(0, 0, MAX, 0), 0);
        checks.noSuch("a row without dips", () -> undyed.planned(0, 0));
    }

    private void thereButLoose() {
        checks.sentence("without LOOSE");
        for (int loose = 0; loose <= 2; loose++) {
            VatHouse house = Houses.ready();
            house.cloth(1);
            Houses.fasten(house, 0, 0, 50);
            Houses.dye(house, 0, 1, loose);
            house.charge(2, 101);
            checks.due("LOOSE " + loose + ", no dips", house.plan(0, 50, 60, 0), loose == 0 ? 0 : VatHouse.NONE);
            checks.due("LOOSE " + loose + ", dips", house.plan(0, 50, 60, 1), loose == 0 ? 0 : 1);
        }
    }

    private void theFewest() {
        checks.sentence("the fewest DIPS");
        VatHouse house = Houses.sound(15000, 30000);
        house.cloth(50);
        checks.due("two minutes of VAT 0, or one of VAT 1", house.plan(0, 3, 3, 3), 1);
        dips("the first one", house, 0, 2, 3);
        checks.due("28 by one dip of VAT 1", house.plan(0, 28, 28, 3), 1);
        dips("though two of VAT 0 are nearly there", house, 1, 8, 28);
        checks.due("27 or 28 by one dip", house.plan(0, 27, 28, 3), 1);
        dips("though two of VAT 0 are there", house, 1, 8, 28);
    }

    private void firstByVats() {
        checks.sentence("of like ones the first row, by VATS, then minutes");
        VatHouse house = Houses.sound(0, 7500, 15000, 0, 15000, 60000);
        house.cloth(50);
        checks.due("7 by 1, 2, 4 or 8 minutes", house.plan(0, 7, 7, 3), 1);
        dips("the first VAT, not the fewest minutes", house, 1, 8, 7);
        VatHouse last = Houses.sound(0, 0, 0, 0, 0, 60000);
        last.cloth(50);
        checks.due("the last VAT", last.plan(0, 7, 7, 3), 1);
        dips("the last VAT", last, 5, 1, 7);
    }

    private void thenByMinutes() {
        checks.sentence("of like ones the first row, by VATS, then minutes");
        VatHouse house = oneVat();
        int[][] due = {{1, 14, 1, 1}, {2, 14, 2, 3}, {4, 14, 4, 7}, {8, 14, 8, 14}};
        for (int[] row : due) {
            checks.due("from " + row[0] + " to " + row[1], house.plan(0, row[0], row[1], 3), 1);
            dips("from " + row[0] + " to " + row[1], house, 0, row[2], row[3]);
        }
    }

    private void theFirstDipFirst() {
        checks.sentence("the first DIP first");
        VatHouse house = oneVat();
        checks.due("from 8 to 9", house.plan(0, 8, 9, 3), 2);
        dips("from 8 to 9", house, 0, 1, 1, 0, 4, 8);
        VatHouse two = Houses.sound(15000, 60000);
        two.cloth(50);
        checks.due("15 by two dips", two.plan(0, 15, 15, 3), 2);
        dips("1 and 8 minutes of the first VAT", two, 0, 1, 1, 0, 8, 15);
        VatHouse other = Houses.sound(15000, 15000);
        other.cloth(50);
        checks.due("28 by two dips", other.plan(0, 28, 28, 3), 2);
        dips("8 minutes of both", other, 0, 8, 14, 1, 8, 28);
    }

    /** 8 minutes more make 61 of 53, and 4 more of 57: then the dip behind them moves half. */
    private void vatsTire() {
        checks.sentence("by 1. from VATS and CLOTH as they are now, no HOUR between");
        for (int ahead = 51; ahead <= 58; ahead++) {
            VatHouse house = Houses.ready();
            house.cloth(50);
            house.dip(0, 0, 20);
            house.dip(0, 0, 20);
            house.dip(0, 0, ahead - 40);
            house.charge(0, 15000);
            checks.due("27 behind " + ahead + " MINUTES", house.plan(0, 27, 27, 2), ahead > 52 ? VatHouse.NONE : 2);
            checks.due("20 behind " + ahead + " MINUTES", house.plan(0, 20, 20, 2), 2);
            dips("20 behind " + ahead, house, ahead > 56 ? new int[] {0, 8, 14, 0, 8, 20}
                : new int[] {0, 4, 7, 0, 8, 20});
        }
    }

    private void vatsStarve() {
        checks.sentence("A DIP that would be FAILURE 1 or 2 can't be in it.");
        for (int food = 7; food <= 10; food++) {
            VatHouse house = Houses.withFood(Houses.SOUND, food);
            house.charge(0, 15000);
            house.cloth(50);
            checks.due("8 minutes with FOOD " + food, house.plan(0, 14, 14, 1), 1);
            checks.due("twice 8 with FOOD " + food, house.plan(0, 27, 27, 3), food > 8 ? 2 : VatHouse.NONE);
        }
        VatHouse none = Houses.withFood(Houses.SOUND, 0);
        none.charge(0, 15000);
        none.cloth(50);
        checks.due("one dip without FOOD", none.plan(0, 14, 14, 3), 1);
        checks.due("two dips without FOOD", none.plan(0, 15, 30, 3), VatHouse.NONE);
    }

    private void sickVats() {
        checks.sentence("A DIP that would be FAILURE 1 or 2 can't be in it.");
        VatHouse house = Houses.sound(15000, 15000);
        house.cloth(50);
        house.feed(0, 1000);
        checks.due("one VAT is SICK", house.plan(0, 14, 14, 3), 1);
        dips("one VAT is SICK", house, 1, 8, 14);
        house.feed(1, 1000);
        checks.due("both are SICK", house.plan(0, 14, 14, 3), VatHouse.NONE);
        checks.due("both are SICK, without dips", house.plan(0, 0, 14, 3), 0);
        VatHouse tired = Houses.tired(15000);
        tired.cloth(50);
        checks.due("a TIRED one", tired.plan(0, 7, 7, 1), 1);
        dips("a TIRED one", tired, 0, 8, 7);
    }

    private void dipsThatMoveNoGrain() {
        checks.sentence("A DIP that would be FAILURE 1 or 2 can't be in it.");
        for (int room = 0; room <= 2; room++) {
            VatHouse house = Houses.ready();
            house.cloth(1);
            Houses.dye(house, 0, 0, 200 - room);
            house.charge(1, 10100);
            checks.due("room for " + room, house.plan(0, 1, 200, 1), room > 0 ? 1 : VatHouse.NONE);
        }
        int[][] due = {{12, VatHouse.NONE}, {13, 8}, {25, 8}, {26, 4}, {50, 4}, {51, 2}, {100, 2}, {101, 1}, {102, 1}};
        for (int[] row : due) {
            VatHouse house = Houses.sound(row[0]);
            house.cloth(1);
            checks.due("GRAINS " + row[0], house.plan(0, 1, 1, 1), row[1] > 0 ? 1 : VatHouse.NONE);
            if (row[1] > 0) {
                dips("GRAINS " + row[0], house, 0, row[1], 1);
            }
        }
    }

    private void inputs() {
        checks.sentence("IllegalArgumentException: most is not 0 to 3, low not 0 to high");
        VatHouse house = oneVat();
        for (int most : new int[] {Integer.MIN_VALUE, -1, 4, MAX}) {
            checks.illegal("most " + most, () -> house.plan(0, 0, 0, most));
        }
        for (int most = 0; most <= 3; most++) {
            checks.due("most " + most, house.plan(0, 0, 0, most), 0);
        }
        int[][] wrong = {{-1, 0}, {-1, -1}, {1, 0}, {0, -1}, {15, 14}, {MAX, 0}, {Integer.MIN_VALUE, MAX},
            {MAX, MAX - 1}, {0, Integer.MIN_VALUE}};
        for (int[] span : wrong) {
            checks.illegal("from " + span[0] + " to " + span[1], () -> house.plan(0, span[0], span[1], 3));
        }
        checks.due("from 14 to 14", house.plan(0, 14, 14, 3), 1);
        checks.due("from 0 to 0", house.plan(0, 0, 0, 3), 0);
    }

    private void whatIsKept() {
        checks.sentence("it is kept for planned(). NONE: there is none (none is kept); the CLOTH is DRY.");
        VatHouse house = oneVat();
        house.cloth(1);
        house.treat(1, 2);
        house.plan(0, 27, 27, 3);
        checks.due("a DRY CLOTH", house.plan(1, 0, 0, 3), VatHouse.NONE);
        checks.illegal("a wrong most", () -> house.plan(0, 0, 0, 4));
        checks.illegal("a wrong span", () -> house.plan(0, 1, 0, 3));
        checks.noSuch("a wrong CLOTH", () -> house.plan(2, 0, 0, 3));
        house.dip(0, 0, 20);
        dips("what was kept", house, 0, 8, 14, 0, 8, 27);
        checks.due("there is none", house.plan(0, 0, 0, 3), VatHouse.NONE);
        checks.noSuch("planned(0, 0)", () -> house.planned(0, 0));
        checks.due("one dip", oneVat().plan(0, 14, 14, 3), 1);
    }

    private void whichDipAndWhat() {
        checks.sentence("NoSuchElementException: there is none, another what");
        VatHouse house = oneVat();
        checks.noSuch("ahead of any plan", () -> house.planned(0, 0));
        int[] shades = {0, 14, 27, 39};
        for (int dips = 0; dips <= 3; dips++) {
            checks.due("a plan of " + dips, house.plan(0, shades[dips], shades[dips], 3), dips);
            for (int i : new int[] {Integer.MIN_VALUE, -1, dips, dips + 1, 3, MAX}) {
                for (int what = -1; what <= 3; what++) {
                    int asked = what;
                    checks.noSuch("planned(" + i + ", " + what + ") of " + dips, () -> house.planned(i, asked));
                }
            }
            for (int i = 0; i < dips; i++) {
                int asked = i;
                checks.noSuch("planned(" + i + ", -1)", () -> house.planned(asked, -1));
                checks.noSuch("planned(" + i + ", 3)", () -> house.planned(asked, 3));
                checks.due("planned(" + i + ", 2)", house.planned(i, 2), shades[i + 1]);
            }
        }
    }
}
