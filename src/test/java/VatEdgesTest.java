/** The edges of "Terms" 1 for VATS: grains, food, lime, and what the hours do to them. */
public final class VatEdgesTest {
    private static final int[] STATES = {Houses.SOUND, Houses.TIRED, Houses.SICK};

    private final Checks checks = new Checks();

    public static void main(String[] args) {
        new VatEdgesTest().all();
    }

    private void all() {
        grains();
        foodAboveAThousand();
        whatIsFed();
        limeOfTheSick();
        limeHalvesAnyFood();
        limeLeavesMinutesOfOthers();
        foodOfAnHour();
        sickAtNoFood();
        restInTheFirstHours();
        restBehindDips();
        restWithoutDips();
        restOfTheSick();
        checks.end();
    }

    private void looks(String when, VatHouse house, int food, int minutes, int state) {
        checks.due("FOOD " + when, house.vat(0, 1), food);
        checks.due("MINUTES " + when, house.vat(0, 2), minutes);
        checks.due("STATE " + when, house.vat(0, 3), state);
    }

    private void grains() {
        checks.sentence("GRAINS (0 to 1,000,000) of dye");
        for (int n = 999999; n <= 1000001; n++) {
            VatHouse atOnce = new VatHouse();
            checks.due("charge of " + n, atOnce.charge(0, n), n <= 1000000 ? n : VatHouse.NONE);
            checks.due("GRAINS behind it", atOnce.vat(0, 0), n <= 1000000 ? n : 0);
            VatHouse inParts = new VatHouse();
            inParts.charge(0, 600000);
            checks.due("charge up to " + n, inParts.charge(0, n - 600000), n <= 1000000 ? n : VatHouse.NONE);
            checks.due("GRAINS behind that", inParts.vat(0, 0), n <= 1000000 ? n : 600000);
        }
    }

    private void foodAboveAThousand() {
        checks.sentence("n (1 to 1000) more FOOD; above 1000: FOOD is 1000, and it is SICK");
        for (int state : STATES) {
            for (int food = 998; food <= 1002; food++) {
                VatHouse house = Houses.withFood(state, 400);
                int due = food > 1000 ? Houses.SICK : state;
                checks.due("feed up to " + food + " of " + state, house.feed(0, food - 400), due);
                looks("behind that", house, Math.min(food, 1000), 0, due);
            }
            VatHouse full = Houses.withFood(state, 400);
            full.feed(0, 600);
            checks.due("1 more than 1000 of " + state, full.feed(0, 1), Houses.SICK);
            looks("behind 1 more", full, 1000, 0, Houses.SICK);
        }
    }

    private void whatIsFed() {
        checks.sentence("n (1 to 1000) more FOOD");
        for (int n : new int[] {1, 2, 999, 1000}) {
            VatHouse house = Houses.withFood(Houses.TIRED, 0);
            checks.due("feed of " + n + " to none", house.feed(0, n), Houses.TIRED);
            checks.due("FOOD then", house.vat(0, 1), n);
        }
        for (int n : new int[] {Integer.MIN_VALUE, -1, 0, 1001, Integer.MAX_VALUE}) {
            VatHouse house = Houses.withFood(Houses.TIRED, 0);
            checks.illegal("feed of " + n, () -> house.feed(0, n));
            looks("behind that", house, 0, 0, Houses.TIRED);
        }
    }

    private void limeOfTheSick() {
        checks.sentence("if it is SICK, MINUTES are 0, and it is TIRED, if FOOD is above 0");
        for (int food = 0; food <= 3; food++) {
            VatHouse house = Houses.withFood(Houses.SICK, food);
            int due = food > 0 ? Houses.TIRED : Houses.SICK;
            checks.due("lime with FOOD " + food, house.lime(0), due);
            looks("behind that", house, food / 2, 0, due);
        }
        for (int food = 0; food <= 2; food++) {
            VatHouse house = Houses.withFood(Houses.SOUND, 7);
            house.cloth(1);
            house.dip(0, 0, 7);
            if (food > 0) {
                house.feed(0, food);
            }
            looks("of a starved one", house, food, 7, Houses.SICK);
            house.lime(0);
            looks("behind its lime", house, food / 2, 0, food > 0 ? Houses.TIRED : Houses.SICK);
        }
    }

    private void limeHalvesAnyFood() {
        checks.sentence("then, of any, FOOD is half of it, cut down");
        for (int state : STATES) {
            for (int food : new int[] {1, 2, 3, 400, 401}) {
                VatHouse house = Houses.withFood(state, food);
                int due = state == Houses.SICK ? Houses.TIRED : state;
                checks.due("lime of " + state + " with FOOD " + food, house.lime(0), due);
                looks("behind that", house, food / 2, 0, due);
            }
            VatHouse full = Houses.withFood(state, 400);
            full.feed(0, 600);
            full.lime(0);
            checks.due("half of 1000 of " + state, full.vat(0, 1), 500);
        }
        for (int state = Houses.SOUND; state <= Houses.TIRED; state++) {
            VatHouse empty = Houses.withFood(state, 0);
            checks.due("lime without FOOD of " + state, empty.lime(0), state);
            looks("behind that", empty, 0, 0, state);
        }
    }

    private void limeLeavesMinutesOfOthers() {
        checks.sentence("if it is SICK, MINUTES are 0");
        for (int state = Houses.SOUND; state <= Houses.TIRED; state++) {
            VatHouse house = Houses.withFood(state, 100);
            house.cloth(1);
            house.dip(0, 0, 1);
            house.lime(0);
            looks("behind lime of one that isn't SICK", house, 49, 1, state);
        }
    }

    private void foodOfAnHour() {
        checks.sentence("of each VAT FOOD is 5 less, not below 0");
        for (int state : STATES) {
            for (int food : new int[] {1, 4, 5, 6, 7, 100}) {
                VatHouse house = Houses.withFood(state, food);
                house.hours(1);
                checks.due("FOOD " + food + " of " + state + " an hour later", house.vat(0, 1), Math.max(0, food - 5));
            }
        }
        VatHouse full = Houses.withFood(Houses.SOUND, 400);
        full.feed(0, 600);
        full.hours(1);
        checks.due("FOOD 1000 an hour later", full.vat(0, 1), 995);
        VatHouse all = Houses.ready();
        all.hours(2);
        for (int vat = 0; vat < 6; vat++) {
            checks.due("FOOD of VAT " + vat, all.vat(vat, 1), 485);
        }
    }

    private void sickAtNoFood() {
        checks.sentence("at 0 it is SICK");
        for (int state = Houses.SOUND; state <= Houses.TIRED; state++) {
            for (int food = 0; food <= 7; food++) {
                VatHouse house = Houses.withFood(state, food);
                house.hours(1);
                looks("an hour behind FOOD " + food, house, Math.max(0, food - 5), 0,
                    food > 5 ? Houses.SOUND : Houses.SICK);
            }
        }
        for (int food = 10; food <= 12; food++) {
            VatHouse dipped = Houses.withFood(Houses.TIRED, food);
            dipped.cloth(1);
            dipped.dip(0, 0, 5);
            dipped.hours(1);
            looks("of a dipped one", dipped, food - 10, 5, food > 10 ? Houses.TIRED : Houses.SICK);
        }
    }

    private void restInTheFirstHours() {
        checks.sentence("A VAT is not dipped in HOURS ahead of the first one.");
        VatHouse idle = Houses.withFood(Houses.TIRED, 100);
        idle.hours(1);
        looks("behind hour 0", idle, 95, 0, Houses.SOUND);
        VatHouse dipped = Houses.withFood(Houses.TIRED, 100);
        dipped.cloth(1);
        dipped.dip(0, 0, 9);
        dipped.hours(1);
        looks("dipped in hour 0, behind it", dipped, 86, 9, Houses.TIRED);
        dipped.hours(1);
        looks("dipped in hour 0, behind hour 1", dipped, 81, 9, Houses.TIRED);
        dipped.hours(1);
        looks("dipped in hour 0, behind hour 2", dipped, 76, 0, Houses.SOUND);
        VatHouse later = Houses.withFood(Houses.TIRED, 100);
        later.cloth(1);
        later.hours(1);
        later.dip(0, 0, 9);
        later.hours(2);
        looks("dipped in hour 1, behind hour 2", later, 76, 9, Houses.SOUND);
        later.hours(1);
        looks("dipped in hour 1, behind hour 3", later, 71, 0, Houses.SOUND);
    }

    private void restBehindDips() {
        checks.sentence("was not dipped in that HOUR and the one ahead of it");
        for (int hours = 1; hours <= 4; hours++) {
            VatHouse house = Houses.withFood(Houses.TIRED, 400);
            house.cloth(1);
            house.hours(30);
            house.dip(0, 0, 3);
            house.hours(hours);
            checks.due("MINUTES " + hours + " hours behind a dip", house.vat(0, 2), hours > 2 ? 0 : 3);
        }
        VatHouse again = Houses.withFood(Houses.TIRED, 400);
        again.cloth(1);
        for (int i = 1; i <= 5; i++) {
            again.dip(0, 0, 1);
            again.hours(2);
            looks("a dip each two hours", again, 400 - 11 * i, i, Houses.TIRED);
        }
        again.hours(1);
        looks("then none", again, 340, 0, Houses.SOUND);
        VatHouse each = Houses.withFood(Houses.TIRED, 400);
        each.cloth(1);
        for (int i = 1; i <= 5; i++) {
            each.dip(0, 0, 1);
            each.hours(3);
            checks.due("MINUTES, a dip each three hours", each.vat(0, 2), 0);
        }
    }

    private void restWithoutDips() {
        checks.sentence("was not dipped in that HOUR and the one ahead of it");
        VatHouse house = Houses.withFood(Houses.TIRED, 400);
        house.charge(0, 10000);
        house.cloth(1);
        house.cloth(1);
        house.treat(1, 2);
        house.dip(0, 0, 3);
        house.hours(2);
        house.dip(1, 0, 4);
        house.plan(0, 0, 200, 3);
        Houses.read(house, 0, "dip 1 1;");
        house.run(0, 0, 9);
        house.hours(1);
        looks("behind dips that were refused, and a plan", house, 382, 0, Houses.SOUND);
        VatHouse byRun = Houses.withFood(Houses.TIRED, 400);
        byRun.charge(0, 10000);
        byRun.cloth(1);
        Houses.runText(byRun, "dip 0 3;rest 2;", 99);
        looks("two hours behind a run's dip", byRun, 387, 3, Houses.TIRED);
        Houses.runText(byRun, "rest 1;", 99);
        looks("three hours behind a run's dip", byRun, 382, 0, Houses.SOUND);
        VatHouse others = Houses.ready();
        others.cloth(1);
        others.dip(0, 0, 2);
        others.dip(0, 1, 3);
        others.hours(2);
        others.dip(0, 1, 3);
        others.hours(1);
        checks.due("MINUTES of the one that rested", others.vat(0, 2), 0);
        checks.due("MINUTES of another", others.vat(1, 2), 6);
    }

    private void restOfTheSick() {
        checks.sentence("else, if it isn't SICK");
        VatHouse house = Houses.withFood(Houses.SOUND, 400);
        house.cloth(1);
        house.dip(0, 0, 3);
        house.feed(0, 1000);
        house.hours(9);
        looks("nine hours later", house, 955, 3, Houses.SICK);
    }
}
