/** The edges of "Terms" 1 for CLOTHS: how many, their weight, shade and room, and what air, water and drying do. */
public final class ClothEdgesTest {
    private final Checks checks = new Checks();

    public static void main(String[] args) {
        new ClothEdgesTest().all();
    }

    private void all() {
        atMostThirty();
        weights();
        shades();
        whatItHolds();
        roomBehindAir();
        air();
        wash();
        dryIsAiredFirst();
        theDayOfNow();
        nothingIsDoneToADryOne();
        checks.end();
    }

    private void atMostThirty() {
        checks.sentence("CLOTHS, from 0 on, at most 30");
        VatHouse house = new VatHouse();
        for (int i = 0; i < 32; i++) {
            int number = i;
            checks.noSuch("about(" + i + ", 0) ahead", () -> house.about(number, 0));
            checks.due("cloth " + i, house.cloth(7), i < 30 ? i : VatHouse.NONE);
            checks.due("CLOTHS", house.count(2), Math.min(i + 1, 30));
        }
        checks.due("WEIGHT of the first one", house.about(0, 0), 7);
        checks.due("WEIGHT of the 30th", house.about(29, 0), 7);
        checks.noSuch("about(30, 0)", () -> house.about(30, 0));
        checks.noSuch("about(-1, 0)", () -> house.about(-1, 0));
    }

    private void weights() {
        checks.sentence("a WEIGHT 1 to 50");
        for (int weight : new int[] {Integer.MIN_VALUE, -1, 0, 1, 2, 49, 50, 51, Integer.MAX_VALUE}) {
            VatHouse house = new VatHouse();
            boolean fits = weight >= 1 && weight <= 50;
            checks.due("cloth(" + weight + ")", house.cloth(weight), fits ? 0 : VatHouse.NONE);
            checks.due("CLOTHS", house.count(2), fits ? 1 : 0);
            if (fits) {
                checks.due("its WEIGHT", house.about(0, 0), weight);
            }
            checks.due("the next one's number", house.cloth(9), fits ? 1 : 0);
        }
        VatHouse full = new VatHouse();
        for (int i = 0; i < 30; i++) {
            full.cloth(1);
        }
        checks.due("a wrong WEIGHT, too, where there are 30", full.cloth(0), VatHouse.NONE);
    }

    private void shades() {
        checks.sentence("its SHADE: FAST / WEIGHT, cut down");
        int[][] due = {{1, 0, 0}, {1, 1, 1}, {1, 2, 2}, {3, 2, 0}, {3, 3, 1}, {3, 4, 1}, {3, 5, 1}, {3, 6, 2},
            {50, 49, 0}, {50, 50, 1}, {50, 51, 1}, {50, 99, 1}, {50, 100, 2}};
        for (int[] row : due) {
            VatHouse house = Houses.ready();
            house.cloth(row[0]);
            Houses.fasten(house, 0, 0, row[1]);
            checks.due("FAST", house.about(0, 2), row[1]);
            checks.due("SHADE of " + row[1] + " on WEIGHT " + row[0], house.about(0, 3), row[2]);
            Houses.dye(house, 0, 1, row[0]);
            checks.due("SHADE with LOOSE", house.about(0, 3), row[2]);
        }
    }

    private void whatItHolds() {
        checks.sentence("at most 200 grains for each of its WEIGHT, LOOSE and FAST together");
        for (int weight : new int[] {1, 2, 50}) {
            int most = 200 * weight;
            for (int more = 1; more <= 3; more++) {
                VatHouse house = Houses.ready();
                house.cloth(weight);
                Houses.fasten(house, 0, 0, most / 2);
                Houses.dye(house, 0, 1, most / 2 - 2);
                house.charge(2, more * (100 + weight));
                checks.due("a dip where 2 have room", house.dip(0, 2, 1), Math.min(more, 2));
                checks.due("FAST", house.about(0, 2), most / 2);
                checks.due("LOOSE", house.about(0, 1), most / 2 - 2 + Math.min(more, 2));
            }
            VatHouse full = Houses.ready();
            full.cloth(weight);
            full.charge(0, 1000000);
            checks.due("the fullest dip on WEIGHT " + weight, full.dip(0, 0, 20), most);
            checks.due("one more", full.dip(0, 0, 20), 0);
            full.treat(0, 2);
            checks.due("SHADE of a full one that is aired", full.about(0, 3), 175);
        }
    }

    private void roomBehindAir() {
        checks.sentence("LOOSE and FAST together");
        VatHouse house = Houses.ready();
        house.cloth(1);
        house.charge(0, 1000000);
        house.dip(0, 0, 20);
        house.treat(0, 0);
        checks.due("room behind air", house.dip(0, 0, 20), 25);
        house.treat(0, 1);
        checks.due("room behind a wash", house.dip(0, 0, 20), 33);
        int shade = 0;
        for (int i = 0; i < 40 && house.about(0, 3) > shade; i++) {
            shade = house.about(0, 3);
            house.treat(0, 0);
            house.hours(1);
            house.dip(0, 0, 20);
        }
        checks.due("the deepest SHADE", shade, 200);
        checks.due("LOOSE then", house.about(0, 1), 0);
    }

    private void air() {
        checks.sentence("LOOSE / 8, cut down, goes to THE DRAIN, the rest of LOOSE to FAST");
        for (int loose : new int[] {0, 1, 7, 8, 9, 15, 16, 17, 199, 200}) {
            VatHouse house = Houses.ready();
            house.cloth(1);
            Houses.dye(house, 0, 0, loose);
            checks.due("air of " + loose, house.treat(0, 0), loose / 8);
            checks.due("LOOSE behind it", house.about(0, 1), 0);
            checks.due("FAST behind it", house.about(0, 2), loose - loose / 8);
            checks.due("THE DRAIN behind it", house.count(1), loose / 8);
        }
    }

    private void wash() {
        checks.sentence("LOOSE and FAST / 20, cut down, go to THE DRAIN");
        for (int fast : new int[] {0, 1, 19, 20, 21, 39, 40, 41, 100}) {
            for (int loose : new int[] {0, 1, 19, 20, 21}) {
                VatHouse house = Houses.ready();
                house.cloth(1);
                Houses.fasten(house, 0, 0, fast);
                Houses.dye(house, 0, 1, loose);
                int drain = house.count(1);
                checks.due("wash of " + loose + " and " + fast, house.treat(0, 1), loose + fast / 20);
                checks.due("LOOSE behind it", house.about(0, 1), 0);
                checks.due("FAST behind it", house.about(0, 2), fast - fast / 20);
                checks.due("THE DRAIN behind it", house.count(1), drain + loose + fast / 20);
            }
        }
    }

    private void dryIsAiredFirst() {
        checks.sentence("TO DRY: aired first; then it is DRY");
        for (int loose : new int[] {0, 7, 8, 9}) {
            VatHouse house = Houses.ready();
            house.cloth(1);
            Houses.fasten(house, 0, 0, 40);
            Houses.dye(house, 0, 1, loose);
            int drain = house.count(1);
            checks.due("dry with LOOSE " + loose, house.treat(0, 2), loose / 8);
            checks.due("LOOSE behind it", house.about(0, 1), 0);
            checks.due("FAST behind it", house.about(0, 2), 40 + loose - loose / 8);
            checks.due("THE DRAIN behind it", house.count(1), drain + loose / 8);
            checks.due("DRY", house.about(0, 4), 1);
        }
    }

    private void theDayOfNow() {
        checks.sentence("HOURS go from 0 on; a DAY is 24 of them.");
        for (int hours : new int[] {0, 1, 23, 24, 25, 47, 48, 49, 9999, 10000}) {
            VatHouse house = new VatHouse();
            house.cloth(1);
            house.hours(hours);
            checks.due("DAY ahead", house.about(0, 5), VatHouse.NONE);
            checks.due("dry", house.treat(0, 2), 0);
            checks.due("DAY in hour " + hours, house.about(0, 5), hours / 24);
            house.hours(24);
            checks.due("DAY a DAY later", house.about(0, 5), hours / 24);
        }
    }

    private void nothingIsDoneToADryOne() {
        checks.sentence("whether it is DRY (then nothing is done to it any more)");
        VatHouse house = Houses.ready();
        house.cloth(1);
        Houses.dye(house, 0, 0, 100);
        Houses.read(house, 0, "wash;");
        house.treat(0, 2);
        house.hours(24);
        checks.due("air", house.treat(0, 0), VatHouse.NONE);
        checks.due("wash", house.treat(0, 1), VatHouse.NONE);
        checks.due("dry", house.treat(0, 2), VatHouse.NONE);
        checks.due("dip", house.dip(0, 0, 1), VatHouse.NONE);
        checks.due("run", house.run(0, 0, 9), VatHouse.NONE);
        checks.due("plan", house.plan(0, 0, 200, 3), VatHouse.NONE);
        int[] due = {1, 0, 88, 88, 1, 0, 1, 1};
        for (int what = 0; what < due.length; what++) {
            checks.due("about(0, " + what + ")", house.about(0, what), due[what]);
        }
        checks.due("THE DRAIN", house.count(1), 12);
    }
}
