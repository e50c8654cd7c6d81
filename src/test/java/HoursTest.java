/** Promise 5. */
public final class HoursTest {
    public static void main(String[] args) {
        Checks checks = new Checks();
        foodGoesByHours(checks);
        vatsRest(checks);
        theSickStaySick(checks);
        longTimesAreLikeShortOnes(checks);
        VatHouse house = new VatHouse();
        checks.due("hours(0)", house.hours(0), 0);
        checks.due("hours(10000)", house.hours(10000), 10000);
        checks.due("hours(10000) more", house.hours(10000), 20000);
        checks.illegal("hours(-1)", () -> house.hours(-1));
        checks.illegal("hours(10001)", () -> house.hours(10001));
        checks.due("HOURS behind wrong calls", house.count(0), 20000);
        checks.end();
    }

    private static void foodGoesByHours(Checks checks) {
        VatHouse house = new VatHouse();
        house.feed(0, 22);
        house.lime(0);
        checks.due("hours(1)", house.hours(1), 1);
        checks.due("FOOD 11 less 5", house.vat(0, 1), 6);
        house.hours(1);
        checks.due("FOOD 1 is enough", house.vat(0, 3), Houses.SOUND);
        house.hours(1);
        checks.due("FOOD not below 0", house.vat(0, 1), 0);
        checks.due("at 0 it is SICK", house.vat(0, 3), Houses.SICK);
        house.feed(1, 10);
        house.lime(1);
        house.hours(1);
        checks.due("at 0 without a rest it is SICK, too", house.vat(1, 3), Houses.SICK);
        VatHouse limedAway = new VatHouse();
        limedAway.feed(0, 1);
        limedAway.lime(0);
        limedAway.hours(1);
        checks.due("a TIRED one without FOOD sickens", limedAway.vat(0, 3), Houses.SICK);
    }

    private static void vatsRest(Checks checks) {
        VatHouse house = Houses.tired(1000);
        house.cloth(1);
        house.dip(0, 0, 20);
        house.hours(1);
        checks.due("dipped in that hour", house.vat(0, 3), Houses.TIRED);
        checks.due("MINUTES then", house.vat(0, 2), 20);
        house.hours(1);
        checks.due("dipped in the hour ahead", house.vat(0, 3), Houses.TIRED);
        house.hours(1);
        checks.due("rested", house.vat(0, 3), Houses.SOUND);
        checks.due("MINUTES when rested", house.vat(0, 2), 0);
        house.dip(0, 0, 1);
        house.hours(2);
        checks.due("MINUTES two hours behind a dip", house.vat(0, 2), 1);
        house.dip(0, 0, 1);
        house.hours(2);
        checks.due("MINUTES add up without a rest", house.vat(0, 2), 2);
        house.hours(1);
        checks.due("MINUTES three hours behind it", house.vat(0, 2), 0);
    }

    private static void theSickStaySick(Checks checks) {
        VatHouse house = Houses.sound(1000);
        house.cloth(1);
        house.dip(0, 0, 7);
        house.feed(0, 1000);
        house.hours(5);
        checks.due("rest does not cure", house.vat(0, 3), Houses.SICK);
        checks.due("MINUTES of the SICK stay", house.vat(0, 2), 7);
        checks.due("the SICK eat", house.vat(0, 1), 975);
    }

    private static void longTimesAreLikeShortOnes(Checks checks) {
        for (int n = 195; n <= 205; n++) {
            VatHouse atOnce = Houses.tired(500, 500);
            VatHouse singly = Houses.tired(500, 500);
            atOnce.feed(0, 500);
            singly.feed(0, 500);
            atOnce.hours(n);
            for (int i = 0; i < n; i++) {
                singly.hours(1);
            }
            for (int what = 0; what < 4; what++) {
                checks.due("vat(0, " + what + ") behind " + n, atOnce.vat(0, what), singly.vat(0, what));
                checks.due("vat(1, " + what + ") behind " + n, atOnce.vat(1, what), singly.vat(1, what));
            }
        }
        VatHouse full = Houses.tired(500);
        full.feed(0, 500);
        full.hours(199);
        checks.due("FOOD of the fullest behind 199", full.vat(0, 1), 5);
        checks.due("its STATE", full.vat(0, 3), Houses.SOUND);
        full.hours(1);
        checks.due("its STATE behind 200", full.vat(0, 3), Houses.SICK);
    }
}
