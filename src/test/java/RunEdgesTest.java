/** The edges of "Terms" 3: what counts, where a run ends, what fails, and how failures go on. */
public final class RunEdgesTest {
    private static final int DONE = 0;
    private static final int FAILED = 1;
    private static final int ENDED = 2;

    private final Checks checks = new Checks();
    private VatHouse house;

    public static void main(String[] args) {
        new RunEdgesTest().all();
    }

    private void all() {
        limitsOfEachKindOfStep();
        whatIsOverTheLimitIsNotDone();
        aFailureOrTheEnd();
        limitsThatARunMayHave();
        rounds();
        roundsUntilAShade();
        looks();
        looksAboveFourDigits();
        theHourOfTheDay();
        dipsThatFail();
        dipsOfFewGrains();
        airWithoutLoose();
        limeOfTheSickAlone();
        feedAboveAThousand();
        numbersOfFail();
        failuresDoNothingElse();
        theSecondBlockOfTry();
        theSecondBlockOfDo();
        theEndIsNotCaught();
        aRunWithoutSteps();
        checks.end();
    }

    /** VAT 0 SOUND with 495 FOOD and 10000 GRAINS, the others SICK; CLOTH 0 of WEIGHT 10. */
    private void fresh() {
        house = Houses.sound(10000);
        house.cloth(10);
    }

    private void runs(String text, int limit, int result, int failure, int counted) {
        String told = text + " to " + limit;
        checks.due("run of " + told, Houses.runText(house, text, limit), result);
        checks.due("ran(0) of " + told, house.ran(0), result);
        checks.due("ran(1) of " + told, house.ran(1), failure);
        checks.due("ran(2) of " + told, house.ran(2), counted);
    }

    private void freshRuns(String text, int limit, int result, int failure, int counted) {
        fresh();
        runs(text, limit, result, failure, counted);
    }

    /** Ends at each limit below what it counts, and is done from there on. */
    private void counts(String text, int counted, int result, int failure) {
        for (int limit = 1; limit <= counted + 2; limit++) {
            boolean enough = limit >= counted;
            freshRuns(text, limit, enough ? result : ENDED, enough ? failure : 0, Math.min(limit, counted));
        }
    }

    private void limitsOfEachKindOfStep() {
        checks.sentence("Each STEP that is begun counts one (times: and one for each round that is begun; until: one "
            + "each time it asks; an HOUR of rest one)");
        counts("dip 0 1;", 1, DONE, 0);
        counts("dip 0 1;air;", 2, DONE, 0);
        counts("wash;", 1, DONE, 0);
        counts("feed 0 1;lime 1;", 2, DONE, 0);
        counts("rest 1;", 2, DONE, 0);
        counts("rest 4;", 5, DONE, 0);
        counts("fail 1;wash;", 1, FAILED, 101);
        counts("times 0{wash;}", 1, DONE, 0);
        counts("times 1{}", 2, DONE, 0);
        counts("times 3{wash;}", 1 + 3 * 2, DONE, 0);
        counts("times 2{times 2{wash;}rest 1;}", 1 + 2 * (1 + 1 + 2 * 2 + 2), DONE, 0);
        counts("until 0{wash;}", 2, DONE, 0);
        counts("until 1{dip 0 1;air;}", 1 + 3 + 1, DONE, 0);
        counts("until 8{dip 0 1;air;}", 1 + 2 * 3 + 1, DONE, 0);
        counts("if hour=1{}", 1, DONE, 0);
        counts("if hour=1{wash;}else{wash;wash;}", 2, DONE, 0);
        counts("if hour=2{wash;}else{wash;wash;}", 3, DONE, 0);
        counts("if hour=2{wash;}", 1, DONE, 0);
        counts("try{}else{wash;}", 1, DONE, 0);
        counts("try{wash;}else{wash;}wash;", 3, DONE, 0);
        counts("try{wash;fail 1;wash;}else{wash;}wash;", 5, DONE, 0);
        counts("do{}last{}", 1, DONE, 0);
        counts("do{wash;}last{wash;}wash;", 4, DONE, 0);
        counts("do{wash;fail 3;wash;}last{wash;}wash;", 4, FAILED, 103);
    }

    private void foods(String text, int[] more) {
        for (int limit = 1; limit <= more.length; limit++) {
            fresh();
            Houses.runText(house, text, limit);
            checks.due("FOOD by " + text + " to " + limit, house.vat(0, 1), 495 + more[limit - 1]);
        }
    }

    private void whatIsOverTheLimitIsNotDone() {
        checks.sentence("where there would be more than the limit, the run ENDS (2), that one not being done");
        foods("feed 0 1;feed 0 1;feed 0 1;", new int[] {1, 2, 3, 3});
        foods("times 2{feed 0 1;}feed 0 1;", new int[] {0, 0, 1, 1, 2, 3, 3});
        foods("until 1{feed 0 1;}", new int[] {0, 0, 1, 1, 2, 2, 3});
        foods("if hour=1{feed 0 1;}feed 0 1;", new int[] {0, 1, 2, 2});
        foods("try{feed 0 1;fail 1;}else{feed 0 1;}feed 0 1;", new int[] {0, 1, 1, 2, 3, 3});
        foods("do{feed 0 1;}last{feed 0 1;}feed 0 1;", new int[] {0, 1, 2, 3, 3});
        foods("do{fail 1;}last{feed 0 1;}feed 0 1;", new int[] {0, 0, 1, 1});
        for (int limit = 1; limit <= 6; limit++) {
            freshRuns("rest 4;", limit, limit < 5 ? ENDED : DONE, 0, Math.min(limit, 5));
            checks.due("HOURS of the run to " + limit, house.ran(5), Math.min(limit, 5) - 1);
            checks.due("HOURS of the house", house.count(0), Math.min(limit, 5));
            freshRuns("dip 0 1;dip 0 1;dip 0 1;", limit, limit < 3 ? ENDED : DONE, 0, Math.min(limit, 3));
            checks.due("DIPS of the run to " + limit, house.ran(3), Math.min(limit, 3));
            checks.due("DIPS of the VAT", house.vat(0, 4), Math.min(limit, 3));
            checks.due("grains of the run", house.ran(4), house.about(0, 1));
        }
    }

    private void aFailureOrTheEnd() {
        checks.sentence("where there would be more than the limit, the run ENDS (2)");
        freshRuns("wash;fail 1;", 1, ENDED, 0, 1);
        freshRuns("wash;fail 1;", 2, FAILED, 101, 2);
        freshRuns("do{fail 1;}last{wash;}", 2, ENDED, 0, 2);
        freshRuns("do{fail 1;}last{wash;}", 3, FAILED, 101, 3);
        freshRuns("do{fail 1;}last{}", 2, FAILED, 101, 2);
        freshRuns("try{fail 1;}else{wash;}", 2, ENDED, 0, 2);
        freshRuns("try{fail 1;}else{}", 2, DONE, 0, 2);
    }

    private void limitsThatARunMayHave() {
        checks.sentence("limit is not 1 to 5000");
        for (int limit : new int[] {Integer.MIN_VALUE, -1, 0, 1, 2, 4999, 5000, 5001, Integer.MAX_VALUE}) {
            fresh();
            Houses.read(house, 0, "until 200{}");
            boolean fits = limit >= 1 && limit <= 5000;
            checks.due("run to " + limit, house.run(0, 0, limit), fits ? ENDED : VatHouse.NONE);
            checks.due("ran(0) of it", house.ran(0), fits ? ENDED : VatHouse.NONE);
            checks.due("ran(2) of it", house.ran(2), fits ? limit : 0);
        }
    }

    private void rounds() {
        checks.sentence("times: its BLOCK so often");
        for (int times : new int[] {0, 1, 2, 49, 50}) {
            freshRuns("times " + times + "{feed 0 1;}", 5000, DONE, 0, 1 + 2 * times);
            checks.due("FOOD by " + times + " rounds", house.vat(0, 1), 495 + times);
        }
        checks.sentence("rest: so many HOURS");
        for (int hours : new int[] {1, 2, 199, 200}) {
            freshRuns("rest " + hours + ";", 5000, DONE, 0, 1 + hours);
            checks.due("HOURS by a rest of " + hours, house.count(0), 1 + hours);
            checks.due("HOURS of the run", house.ran(5), hours);
        }
    }

    private void roundsUntilAShade() {
        checks.sentence("until: as long as the SHADE is below N its BLOCK");
        for (int n = 4; n <= 6; n++) {
            house = Houses.ready();
            house.cloth(2);
            Houses.fasten(house, 0, 0, 11);
            checks.due("SHADE", house.about(0, 3), 5);
            runs("until " + n + "{fail 1;}", 9, n > 5 ? FAILED : DONE, n > 5 ? 101 : 0, n > 5 ? 3 : 2);
        }
        for (int n : new int[] {199, 200}) {
            house = Houses.sound(1000000);
            house.cloth(1);
            runs("until " + n + "{dip 0 20;air;feed 0 20;rest 1;}", 400, DONE, 0, 1 + 3 * 6 + 1);
            checks.due("SHADE at last, behind 175 and 197", house.about(0, 3), 200);
        }
    }

    private void looks() {
        checks.sentence("if: by its TEST (hour is HOURS MOD 24)");
        String[] looks = {"shade", "loose", "grains 0", "food 0", "grains 5", "food 5", "hour"};
        int[] seen = {5, 12, 1000, 300, 0, 0, 9};
        for (int i = 0; i < looks.length; i++) {
            for (int n = Math.max(0, seen[i] - 1); n <= seen[i] + 1; n++) {
                looksTrue(looks[i] + "<" + n, seen[i] < n);
                looksTrue(looks[i] + "=" + n, seen[i] == n);
            }
        }
    }

    /** SHADE 5, LOOSE 12, VAT 0 with 1000 GRAINS and 300 FOOD, VAT 5 with none, in hour 9. */
    private void looksTrue(String test, boolean due) {
        house = new VatHouse();
        for (int vat = 0; vat < 3; vat++) {
            house.feed(vat, 690);
            house.lime(vat);
        }
        house.hours(9);
        house.charge(0, 1000);
        house.cloth(2);
        Houses.fasten(house, 0, 1, 11);
        Houses.dye(house, 0, 2, 12);
        runs("if " + test + "{fail 1;}else{fail 2;}", 9, FAILED, due ? 101 : 102, 2);
        runs("if " + test + "{fail 1;}fail 3;", 9, FAILED, due ? 101 : 103, 2);
    }

    private void looksAboveFourDigits() {
        checks.sentence("TEST: LOOK");
        for (int grains : new int[] {9998, 9999, 10000, 1000000}) {
            house = Houses.sound(grains);
            house.cloth(1);
            int due = grains < 9999 ? 101 : grains == 9999 ? 102 : 103;
            runs("if grains 0<9999{fail 1;}if grains 0=9999{fail 2;}fail 3;", 9, FAILED, due, due == 101 ? 2 : 3);
        }
    }

    private void theHourOfTheDay() {
        checks.sentence("hour is HOURS MOD 24");
        for (int hours : new int[] {0, 1, 22, 23, 24, 25, 47, 48, 9999}) {
            house = new VatHouse();
            house.cloth(1);
            house.hours(hours);
            runs("if hour=" + hours % 24 + "{fail 1;}", 9, FAILED, 101, 2);
            runs("if hour<" + hours % 24 + "{fail 1;}", 9, DONE, 0, 1);
            runs("if hour<24{fail 1;}", 9, FAILED, 101, 2);
        }
    }

    private void dipsThatFail() {
        checks.sentence("FAILURES: 1 dip in a SICK VAT; 2 a dip that moves no grain");
        for (int state = Houses.SOUND; state <= Houses.SICK; state++) {
            house = Houses.withFood(state, 100);
            house.charge(0, 1010);
            house.cloth(1);
            boolean sick = state == Houses.SICK;
            runs("dip 0 1;", 9, sick ? FAILED : DONE, sick ? 1 : 0, 1);
            house = Houses.withFood(state, 100);
            house.cloth(1);
            runs("dip 0 1;", 9, FAILED, sick ? 1 : 2, 1);
        }
        house = Houses.sound(10000, 10000);
        house.cloth(1);
        runs("dip 0 20;", 9, DONE, 0, 1);
        runs("dip 1 1;", 9, FAILED, 2, 1);
        house.feed(1, 1000);
        runs("dip 1 1;", 9, FAILED, 1, 1);
    }

    private void dipsOfFewGrains() {
        checks.sentence("2 a dip that moves no grain");
        for (int grains : new int[] {100, 101, 102, 201, 202, 203}) {
            house = Houses.sound(grains);
            house.cloth(1);
            runs("dip 0 1;", 9, grains < 101 ? FAILED : DONE, grains < 101 ? 2 : 0, 1);
            checks.due("grains of the run", house.ran(4), grains / 101);
            house = Houses.tired(grains);
            house.cloth(1);
            runs("dip 0 1;", 9, grains < 202 ? FAILED : DONE, grains < 202 ? 2 : 0, 1);
            checks.due("grains of the run, TIRED", house.ran(4), grains / 101 / 2);
        }
        for (int room = 0; room <= 2; room++) {
            house = Houses.ready();
            house.cloth(1);
            Houses.dye(house, 0, 0, 200 - room);
            house.charge(1, 10000);
            runs("dip 1 1;", 9, room < 1 ? FAILED : DONE, room < 1 ? 2 : 0, 1);
            checks.due("grains of the run where " + room + " have room", house.ran(4), room);
        }
    }

    private void airWithoutLoose() {
        checks.sentence("3 air without LOOSE");
        for (int loose = 0; loose <= 2; loose++) {
            house = Houses.ready();
            house.cloth(1);
            Houses.fasten(house, 0, 0, 50);
            Houses.dye(house, 0, 1, loose);
            runs("air;", 9, loose < 1 ? FAILED : DONE, loose < 1 ? 3 : 0, 1);
            checks.due("FAST behind air of " + loose, house.about(0, 2), 50 + loose);
        }
    }

    private void limeOfTheSickAlone() {
        checks.sentence("4 lime of a VAT that is not SICK");
        for (int state = Houses.SOUND; state <= Houses.SICK; state++) {
            for (int food = 0; food <= 3; food++) {
                house = Houses.withFood(state, food);
                house.cloth(1);
                boolean sick = state == Houses.SICK;
                runs("lime 0;", 9, sick ? DONE : FAILED, sick ? 0 : 4, 1);
                checks.due("FOOD behind it", house.vat(0, 1), sick ? food / 2 : food);
                checks.due("STATE behind it", house.vat(0, 3), sick && food > 0 ? Houses.TIRED : state);
            }
        }
    }

    private void feedAboveAThousand() {
        checks.sentence("5 feed above 1000 (it is done)");
        for (int state = Houses.SOUND; state <= Houses.SICK; state++) {
            for (int food = 999; food <= 1001; food++) {
                house = Houses.withFood(state, 400);
                house.cloth(1);
                boolean above = food > 1000;
                runs("feed 0 " + (food - 400) + ";", 9, above ? FAILED : DONE, above ? 5 : 0, 1);
                checks.due("FOOD behind it", house.vat(0, 1), Math.min(food, 1000));
                checks.due("STATE behind it", house.vat(0, 3), above ? Houses.SICK : state);
            }
        }
    }

    private void numbersOfFail() {
        checks.sentence("100 and N of fail");
        for (int n : new int[] {1, 2, 98, 99}) {
            freshRuns("fail " + n + ";", 9, FAILED, 100 + n, 1);
        }
    }

    private void failuresDoNothingElse() {
        checks.sentence("(1 to 4 do nothing else.)");
        String[] failing = {"dip 1 5;", "dip 2 5;", "air;", "lime 0;", "lime 2;", "fail 7;"};
        int[] failures = {1, 2, 3, 4, 4, 107};
        for (int i = 0; i < failing.length; i++) {
            house = Houses.sound(10000, 10000, 4);
            house.feed(1, 1000);
            house.cloth(10);
            house.dip(0, 0, 7);
            house.treat(0, 0);
            Houses.read(house, 0, failing[i]);
            int[] ahead = Houses.seen(house);
            checks.due(failing[i], house.run(0, 0, 9), FAILED);
            checks.due("FAILURE of " + failing[i], house.ran(1), failures[i]);
            for (int what = 3; what <= 5; what++) {
                checks.due("ran(" + what + ") of " + failing[i], house.ran(what), 0);
            }
            checks.alike("behind " + failing[i], Houses.seen(house), ahead);
        }
    }

    private void theSecondBlockOfTry() {
        checks.sentence("try: a FAILURE of its first BLOCK goes on with the second one");
        String[] failing = {"dip 1 5;", "dip 0 1;air;air;", "air;", "lime 0;", "feed 0 600;", "fail 1;"};
        for (String steps : failing) {
            fresh();
            String text = "try{" + steps + "wash;}else{rest 3;}rest 1;";
            checks.due("run of " + text, Houses.runText(house, text, 99), DONE);
            checks.due("HOURS by the second one and behind it", house.ran(5), 4);
            checks.due("no FAILURE is told", house.ran(1), 0);
        }
        freshRuns("try{}else{rest 3;}", 99, DONE, 0, 1);
        freshRuns("try{fail 1;}else{fail 2;}rest 3;", 99, FAILED, 102, 3);
        freshRuns("try{try{fail 1;}else{fail 2;}fail 3;}else{rest 1;}", 99, DONE, 0, 6);
        freshRuns("try{wash;}else{}fail 4;", 99, FAILED, 104, 3);
        freshRuns("times 3{try{fail 1;}else{}}", 99, DONE, 0, 1 + 3 * 3);
    }

    private void theSecondBlockOfDo() {
        checks.sentence("do: behind its first BLOCK, however it came to its end (but ENDED), its second one");
        freshRuns("do{}last{rest 3;}rest 1;", 99, DONE, 0, 1 + 4 + 2);
        freshRuns("do{fail 1;}last{rest 3;}rest 1;", 99, FAILED, 101, 2 + 4);
        checks.due("HOURS of the second one", house.ran(5), 3);
        freshRuns("do{times 9{do{fail 1;}last{rest 1;}}}last{rest 1;}", 99, FAILED, 101, 9);
        checks.due("HOURS of both second ones", house.ran(5), 2);
        checks.sentence("a FAILURE of the first one goes on behind that, if the second one had none itself");
        freshRuns("do{fail 1;}last{fail 2;}", 99, FAILED, 102, 3);
        freshRuns("do{}last{fail 2;}", 99, FAILED, 102, 2);
        freshRuns("do{fail 1;}last{try{fail 2;}else{}}", 99, FAILED, 101, 4);
        freshRuns("try{do{fail 1;}last{fail 2;}}else{fail 3;}", 99, FAILED, 103, 5);
        freshRuns("do{try{fail 1;}else{}}last{}", 99, DONE, 0, 3);
    }

    private void theEndIsNotCaught() {
        checks.sentence("however it came to its end (but ENDED)");
        freshRuns("try{rest 9;}else{feed 0 1;}", 4, ENDED, 0, 4);
        checks.due("FOOD behind HOURS alone", house.vat(0, 1), 485);
        freshRuns("do{rest 9;}last{feed 0 1;}", 4, ENDED, 0, 4);
        checks.due("FOOD behind HOURS alone, too", house.vat(0, 1), 485);
        freshRuns("try{do{rest 9;}last{feed 0 1;}}else{feed 0 1;}", 5, ENDED, 0, 5);
        checks.due("FOOD behind HOURS alone within both", house.vat(0, 1), 485);
        freshRuns("do{fail 1;}last{rest 9;}", 5, ENDED, 0, 5);
        freshRuns("do{rest 2;}last{feed 0 1;}", 5, DONE, 0, 5);
        checks.due("FOOD at the very limit", house.vat(0, 1), 486);
    }

    private void aRunWithoutSteps() {
        checks.sentence("RECIPE: STEP*");
        for (String text : new String[] {"", " ", "\n"}) {
            freshRuns(text, 1, DONE, 0, 0);
            freshRuns(text, 5000, DONE, 0, 0);
        }
    }
}
