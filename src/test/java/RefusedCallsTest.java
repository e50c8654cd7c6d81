import java.util.NoSuchElementException;

/** Calls that are refused, by NONE or by an exception, and calls that only ask: behind each all is as it was. */
public final class RefusedCallsTest {
    private static final int NO_SUCH = -2;
    private static final int ILLEGAL = -3;
    private static final int NONE = VatHouse.NONE;

    private interface Call {
        int on(VatHouse house);
    }

    private final Checks checks = new Checks();
    private final int[] asItWas = everything(busy());

    public static void main(String[] args) {
        new RefusedCallsTest().all();
    }

    private void all() {
        theBusyHouse();
        ofVats();
        ofCloths();
        ofTexts();
        ofRuns();
        ofPlans();
        ofAnswers();
        fullOnes();
        checks.end();
    }

    /**
     * VAT 0 SOUND, 1 SICK, 2 TIRED; CLOTH 0 wet with LOOSE, 1 DRY, 2 not touched; RECIPES 0 and 5; a FAULT; a run that
     * failed; a plan of two dips; 40 bytes on the tape.
     */
    private static VatHouse busy() {
        VatHouse house = Houses.sound(15000, 15000, 15000);
        house.feed(1, 1000);
        house.cloth(10);
        house.cloth(1);
        house.cloth(50);
        house.dip(0, 0, 3);
        house.dip(1, 0, 3);
        house.treat(0, 0);
        house.treat(1, 2);
        house.hours(30);
        house.dip(0, 0, 4);
        Houses.read(house, 0, "rest 1;dip 0 1;fail 6;");
        Houses.read(house, 5, "wash;wash;");
        house.run(0, 0, 99);
        Houses.read(house, 5, "air;rest 0;");
        house.feed(2, 1000);
        house.lime(2);
        house.plan(2, 16, 17, 3);
        Houses.write(house, "wash;wash;wash;wash;wash;wash;wash;wash;");
        return house;
    }

    private void theBusyHouse() {
        VatHouse house = busy();
        int[] states = {Houses.SOUND, Houses.SICK, Houses.TIRED};
        for (int vat = 0; vat < 3; vat++) {
            checks.due("STATE of VAT " + vat, house.vat(vat, 3), states[vat]);
        }
        checks.due("LOOSE", house.about(0, 1) > 0 ? 1 : 0, 1);
        checks.due("DRY", house.about(1, 4), 1);
        checks.due("its run failed", house.ran(1), 106);
        checks.due("its FAULT", house.fault(0), 2);
        checks.due("its plan's second dip", house.planned(1, 2), 16);
        checks.due("its tape", house.count(4), 40);
    }

    /** What can be asked, and then what two runs and the tape tell, which can't be asked. */
    private static int[] everything(VatHouse house) {
        int[] seen = Houses.seen(house);
        int[] all = new int[seen.length + 30];
        System.arraycopy(seen, 0, all, 0, seen.length);
        int at = seen.length;
        for (int what = 0; what < 6; what++) {
            all[at++] = house.ran(what);
        }
        for (int what = 0; what < 2; what++) {
            all[at++] = house.fault(what);
        }
        for (int i = 0; i < 9; i++) {
            all[at++] = plannedOrNot(house, i / 3, i % 3);
        }
        for (int recipe = 0; recipe < 8; recipe++) {
            all[at++] = house.run(recipe, 2, 99);
        }
        all[at++] = house.ran(2);
        all[at++] = house.recipe(1, 40);
        all[at++] = house.count(5);
        all[at++] = house.vat(0, 0);
        return all;
    }

    private static int plannedOrNot(VatHouse house, int i, int what) {
        try {
            return house.planned(i, what);
        } catch (NoSuchElementException thrown) {
            return NO_SUCH;
        }
    }

    private void leaves(String told, int due, Call call) {
        VatHouse house = busy();
        if (due == NO_SUCH) {
            checks.noSuch(told, () -> call.on(house));
        } else if (due == ILLEGAL) {
            checks.illegal(told, () -> call.on(house));
        } else {
            checks.due(told, call.on(house), due);
        }
        checks.alike("behind " + told, everything(house), asItWas);
    }

    private void ofVats() {
        leaves("charge(0, 0)", NONE, house -> house.charge(0, 0));
        leaves("charge(0, -1)", NONE, house -> house.charge(0, -1));
        leaves("charge(1, 985001)", NONE, house -> house.charge(1, 985001));
        leaves("charge(1, MAX)", NONE, house -> house.charge(1, Integer.MAX_VALUE));
        leaves("charge(-1, 1)", NO_SUCH, house -> house.charge(-1, 1));
        leaves("charge(6, 1)", NO_SUCH, house -> house.charge(6, 1));
        leaves("feed(0, 0)", ILLEGAL, house -> house.feed(0, 0));
        leaves("feed(0, 1001)", ILLEGAL, house -> house.feed(0, 1001));
        leaves("feed(-1, 1)", NO_SUCH, house -> house.feed(-1, 1));
        leaves("feed(6, 1)", NO_SUCH, house -> house.feed(6, 1));
        leaves("lime(-1)", NO_SUCH, house -> house.lime(-1));
        leaves("lime(6)", NO_SUCH, house -> house.lime(6));
        leaves("hours(-1)", ILLEGAL, house -> house.hours(-1));
        leaves("hours(10001)", ILLEGAL, house -> house.hours(10001));
        leaves("hours(0)", 32, house -> house.hours(0));
    }

    private void ofCloths() {
        leaves("cloth(0)", NONE, house -> house.cloth(0));
        leaves("cloth(51)", NONE, house -> house.cloth(51));
        leaves("dip(0, 1, 1), SICK", NONE, house -> house.dip(0, 1, 1));
        leaves("dip(1, 0, 1), DRY", NONE, house -> house.dip(1, 0, 1));
        leaves("dip(0, 0, 0)", ILLEGAL, house -> house.dip(0, 0, 0));
        leaves("dip(0, 0, 21)", ILLEGAL, house -> house.dip(0, 0, 21));
        leaves("dip(0, 1, 0), SICK", ILLEGAL, house -> house.dip(0, 1, 0));
        leaves("dip(1, 0, 21), DRY", ILLEGAL, house -> house.dip(1, 0, 21));
        leaves("dip(3, 0, 1)", NO_SUCH, house -> house.dip(3, 0, 1));
        leaves("dip(0, 6, 1)", NO_SUCH, house -> house.dip(0, 6, 1));
        leaves("dip(0, -1, 1)", NO_SUCH, house -> house.dip(0, -1, 1));
        for (int what = 0; what < 3; what++) {
            int asked = what;
            leaves("treat(1, " + what + "), DRY", NONE, house -> house.treat(1, asked));
            leaves("treat(3, " + what + ")", NO_SUCH, house -> house.treat(3, asked));
            leaves("treat(-1, " + what + ")", NO_SUCH, house -> house.treat(-1, asked));
        }
        leaves("treat(0, 3)", ILLEGAL, house -> house.treat(0, 3));
        leaves("treat(0, -1)", ILLEGAL, house -> house.treat(0, -1));
        leaves("treat(1, 3), DRY", ILLEGAL, house -> house.treat(1, 3));
    }

    private void ofTexts() {
        leaves("recipe(-1, 10)", ILLEGAL, house -> house.recipe(-1, 10));
        leaves("recipe(8, 10)", ILLEGAL, house -> house.recipe(8, 10));
        leaves("recipe(0, 41)", ILLEGAL, house -> house.recipe(0, 41));
        leaves("recipe(0, -1)", ILLEGAL, house -> house.recipe(0, -1));
        leaves("recipe(8, 41)", ILLEGAL, house -> house.recipe(8, 41));
    }

    private void ofRuns() {
        leaves("run(-1, 0, 9)", NONE, house -> house.run(-1, 0, 9));
        leaves("run(8, 0, 9)", NONE, house -> house.run(8, 0, 9));
        leaves("run(1, 0, 9), not read", NONE, house -> house.run(1, 0, 9));
        leaves("run(0, 1, 9), DRY", NONE, house -> house.run(0, 1, 9));
        leaves("run(0, 0, 0)", NONE, house -> house.run(0, 0, 0));
        leaves("run(0, 0, -1)", NONE, house -> house.run(0, 0, -1));
        leaves("run(0, 0, 5001)", NONE, house -> house.run(0, 0, 5001));
        leaves("run(0, 3, 9)", NO_SUCH, house -> house.run(0, 3, 9));
        leaves("run(0, -1, 9)", NO_SUCH, house -> house.run(0, -1, 9));
    }

    private void ofPlans() {
        leaves("plan(1, 0, 0, 3), DRY", NONE, house -> house.plan(1, 0, 0, 3));
        leaves("plan(2, 0, 0, 4)", ILLEGAL, house -> house.plan(2, 0, 0, 4));
        leaves("plan(2, 0, 0, -1)", ILLEGAL, house -> house.plan(2, 0, 0, -1));
        leaves("plan(2, 1, 0, 3)", ILLEGAL, house -> house.plan(2, 1, 0, 3));
        leaves("plan(2, -1, 0, 3)", ILLEGAL, house -> house.plan(2, -1, 0, 3));
        leaves("plan(1, 1, 0, 3), DRY", ILLEGAL, house -> house.plan(1, 1, 0, 3));
        leaves("plan(3, 0, 0, 3)", NO_SUCH, house -> house.plan(3, 0, 0, 3));
        leaves("plan(-1, 0, 0, 3)", NO_SUCH, house -> house.plan(-1, 0, 0, 3));
        leaves("the same plan", 2, house -> house.plan(2, 16, 17, 3));
    }

    private void ofAnswers() {
        leaves("fault(2)", NO_SUCH, house -> house.fault(2));
        leaves("ran(6)", NO_SUCH, house -> house.ran(6));
        leaves("planned(2, 0)", NO_SUCH, house -> house.planned(2, 0));
        leaves("planned(0, 3)", NO_SUCH, house -> house.planned(0, 3));
        leaves("vat(0, 6)", NO_SUCH, house -> house.vat(0, 6));
        leaves("about(0, 8)", NO_SUCH, house -> house.about(0, 8));
        leaves("count(6)", NO_SUCH, house -> house.count(6));
        leaves("faded(0, 9, 0), not DRY", NONE, house -> house.faded(0, 9, 0));
        leaves("faded(1, 0, 0)", 175, house -> house.faded(1, 0, 0));
        leaves("faded(1, -1, 0)", ILLEGAL, house -> house.faded(1, -1, 0));
        leaves("faded(1, 0, 2)", ILLEGAL, house -> house.faded(1, 0, 2));
        leaves("faded(3, 0, 0)", NO_SUCH, house -> house.faded(3, 0, 0));
        leaves("matching(1, 9)", 0, house -> house.matching(1, 9));
        leaves("matching(1, 1000001)", ILLEGAL, house -> house.matching(1, 1000001));
        leaves("matching(3, 9)", NO_SUCH, house -> house.matching(3, 9));
    }

    /** What is refused because there is no room any more. */
    private void fullOnes() {
        VatHouse cloths = new VatHouse();
        for (int i = 0; i < 30; i++) {
            cloths.cloth(20);
        }
        checks.due("the 31st CLOTH", cloths.cloth(30), NONE);
        for (int i = 0; i < 30; i++) {
            checks.due("WEIGHT of " + i, cloths.about(i, 0), 20);
        }
        VatHouse tape = new VatHouse();
        Houses.write(tape, "wash;".repeat(300));
        checks.due("bytes above 1500", tape.put(0, 0, 0, 0, 0), NONE);
        checks.due("the tape as it was", tape.recipe(0, 1500), 0);
        checks.due("its STEPS", tape.count(5), 300);
    }
}
