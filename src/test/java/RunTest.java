/** Promise 12, and what its runs tell by promise 13. */
public final class RunTest {
    private static final int DONE = 0;
    private static final int FAILED = 1;
    private static final int ENDED = 2;

    private final Checks checks = new Checks();
    private VatHouse house;

    public static void main(String[] args) {
        new RunTest().all();
    }

    private void all() {
        plainSteps();
        failures();
        failuresDoNothingElse();
        rounds();
        untilItIsThere();
        tests();
        caughtFailures();
        lastParts();
        limits();
        deepBlocks();
        singleGrains();
        noRuns();
        checks.end();
    }

    /** A house with VAT 0 SOUND, VAT 1 SICK with 40 FOOD, and one CLOTH of WEIGHT 10. */
    private void fresh() {
        house = Houses.sound(10000);
        house.feed(1, 40);
        house.cloth(10);
    }

    private void runs(String text, int limit, int result, int failure, int counted) {
        checks.due("run of " + text + " to " + limit, Houses.runText(house, text, limit), result);
        checks.due("result of " + text, house.ran(0), result);
        checks.due("FAILURE of " + text, house.ran(1), failure);
        checks.due("STEPS of " + text, house.ran(2), counted);
    }

    private void freshRuns(String text, int limit, int result, int failure, int counted) {
        fresh();
        runs(text, limit, result, failure, counted);
    }

    private void plainSteps() {
        freshRuns("dip 0 7;air;dip 0 1;wash;", 5000, DONE, 0, 4);
        checks.due("DIPS", house.ran(3), 2);
        checks.due("grains", house.ran(4), 636 + 85);
        checks.due("HOURS", house.ran(5), 0);
        checks.due("FAST", house.about(0, 2), 530);
        checks.due("THE DRAIN", house.count(1), 191);
        checks.due("DIPS of the VAT", house.vat(0, 4), 2);
        checks.due("DIPS of the CLOTH", house.about(0, 7), 2);
        checks.due("VATS of the CLOTH", house.about(0, 6), 1);
        checks.due("CLOTHS of the VAT", house.vat(0, 5), 1);
        freshRuns("rest 3;feed 1 7;lime 1;", 5000, DONE, 0, 6);
        checks.due("HOURS", house.ran(5), 3);
        checks.due("HOURS of the house", house.count(0), 4);
        checks.due("FOOD of the limed one", house.vat(1, 1), 16);
        checks.due("STATE of the limed one", house.vat(1, 3), Houses.TIRED);
        checks.due("FOOD of the other one", house.vat(0, 1), 480);
        freshRuns("wash;", 5000, DONE, 0, 1);
        freshRuns("", 1, DONE, 0, 0);
        fresh();
        house.dip(0, 0, 20);
        runs("rest 2;", 10, DONE, 0, 3);
        checks.due("MINUTES by a dip in the hour ahead of the rest", house.vat(0, 2), 20);
        runs("rest 1;", 10, DONE, 0, 2);
        checks.due("MINUTES when it rested", house.vat(0, 2), 0);
        runs("dip 0 1;rest 1;", 10, DONE, 0, 3);
        checks.due("MINUTES by a dip of a run", house.vat(0, 2), 1);
    }

    private void failures() {
        freshRuns("dip 1 1;air;", 10, FAILED, 1, 1);
        freshRuns("dip 2 1;", 10, FAILED, 1, 1);
        freshRuns("air;wash;", 10, FAILED, 3, 1);
        freshRuns("lime 0;wash;", 10, FAILED, 4, 1);
        freshRuns("feed 0 505;", 10, DONE, 0, 1);
        freshRuns("feed 0 506;wash;", 10, FAILED, 5, 1);
        checks.due("the feed is done", house.vat(0, 1), 1000);
        checks.due("it is SICK", house.vat(0, 3), Houses.SICK);
        freshRuns("wash;fail 42;wash;", 10, FAILED, 142, 2);
        freshRuns("lime 2;", 10, DONE, 0, 1);
        checks.due("limed without FOOD", house.vat(2, 3), Houses.SICK);
        house = Houses.sound(100);
        house.cloth(1);
        runs("dip 0 1;air;", 10, FAILED, 2, 1);
    }

    private void failuresDoNothingElse() {
        house = Houses.sound(10000);
        house.cloth(1);
        runs("dip 0 20;dip 0 20;", 10, FAILED, 2, 2);
        checks.due("DIPS of the run", house.ran(3), 1);
        checks.due("grains of the run", house.ran(4), 200);
        checks.due("DIPS of the VAT", house.vat(0, 4), 1);
        checks.due("MINUTES", house.vat(0, 2), 20);
        checks.due("FOOD", house.vat(0, 1), 475);
        fresh();
        runs("lime 0;", 10, FAILED, 4, 1);
        checks.due("FOOD of the one that is not SICK", house.vat(0, 1), 495);
        runs("dip 1 1;", 10, FAILED, 1, 1);
        checks.due("FOOD of the SICK one", house.vat(1, 1), 40);
    }

    private void rounds() {
        freshRuns("times 3{dip 0 2;air;}wash;", 100, DONE, 0, 11);
        checks.due("DIPS", house.ran(3), 3);
        freshRuns("times 0{fail 1;}", 100, DONE, 0, 1);
        freshRuns("times 50{}", 100, DONE, 0, 51);
        freshRuns("times 2{times 3{wash;}}", 100, DONE, 0, 1 + 2 * (1 + 1 + 3 * 2));
        freshRuns("times 5{dip 0 1;air;air;}", 100, FAILED, 3, 5);
    }

    private void untilItIsThere() {
        freshRuns("until 20{dip 0 1;air;}", 100, DONE, 0, 1 + 3 * 3 + 1);
        checks.due("SHADE", house.about(0, 3), 23);
        runs("until 23{fail 1;}", 100, DONE, 0, 2);
        runs("until 24{fail 1;}", 100, FAILED, 101, 3);
        freshRuns("until 0{fail 1;}", 100, DONE, 0, 2);
        freshRuns("until 1{}", 5000, ENDED, 0, 5000);
        freshRuns("until 1{times 3{}}", 9, ENDED, 0, 9);
    }

    private void tests() {
        freshRuns("if shade<0{fail 1;}if shade=1{fail 2;}if shade=0{fail 3;}", 10, FAILED, 103, 4);
        freshRuns("if shade<1{fail 1;}", 10, FAILED, 101, 2);
        freshRuns("dip 0 7;if loose<636{fail 1;}if loose=636{fail 2;}", 10, FAILED, 102, 4);
        freshRuns("if grains 0<9999{fail 1;}if grains 1=0{fail 2;}", 10, FAILED, 102, 3);
        freshRuns("if food 0=495{if food 1<41{fail 7;}}", 10, FAILED, 107, 3);
        freshRuns("if hour=0{fail 1;}else{if hour=1{fail 2;}}", 10, FAILED, 102, 3);
        freshRuns("rest 23;if hour=0{fail 9;}", 99, FAILED, 109, 26);
        freshRuns("rest 24;if hour<2{wash;}else{fail 1;}", 99, DONE, 0, 27);
        freshRuns("if hour=9{fail 1;}wash;", 99, DONE, 0, 2);
        freshRuns("if hour=1{wash;}else{fail 1;}", 99, DONE, 0, 2);
        house = Houses.sound(10000);
        house.cloth(2);
        house.cloth(10);
        house.dip(0, 0, 7);
        Houses.read(house, 3, "if loose=0{fail 1;}else{fail 2;}");
        checks.due("a run on another CLOTH", house.run(3, 1, 9), FAILED);
        checks.due("looks at that one", house.ran(1), 101);
    }

    private void caughtFailures() {
        freshRuns("try{wash;}else{fail 1;}wash;", 10, DONE, 0, 3);
        freshRuns("try{air;fail 9;}else{wash;}wash;", 10, DONE, 0, 4);
        freshRuns("try{air;}else{fail 2;}wash;", 10, FAILED, 102, 3);
        freshRuns("try{try{fail 1;}else{fail 2;}}else{fail 3;}", 10, FAILED, 103, 5);
        freshRuns("try{times 4{fail 1;}wash;}else{}wash;", 10, DONE, 0, 5);
        freshRuns("try{until 1{}}else{wash;}", 10, ENDED, 0, 10);
        freshRuns("try{feed 0 1000;}else{lime 0;}", 10, DONE, 0, 3);
        checks.due("cured by its recipe", house.vat(0, 3), Houses.TIRED);
        checks.due("with half of 1000", house.vat(0, 1), 500);
    }

    private void lastParts() {
        freshRuns("do{wash;}last{wash;}wash;", 10, DONE, 0, 4);
        freshRuns("do{fail 1;wash;}last{wash;wash;}wash;", 10, FAILED, 101, 4);
        freshRuns("do{fail 1;}last{fail 2;wash;}wash;", 10, FAILED, 102, 3);
        freshRuns("do{wash;}last{fail 2;}wash;", 10, FAILED, 102, 3);
        freshRuns("try{do{fail 1;}last{wash;}wash;}else{wash;}", 10, DONE, 0, 5);
        freshRuns("do{do{fail 1;}last{wash;}}last{rest 1;}", 10, FAILED, 101, 6);
        checks.due("the outer last part is done", house.ran(5), 1);
        freshRuns("do{fail 1;}last{try{fail 2;}else{}}", 10, FAILED, 101, 4);
        freshRuns("do{until 1{}}last{rest 1;}", 10, ENDED, 0, 10);
        checks.due("nothing behind the end", house.ran(5), 0);
        freshRuns("do{fail 1;}last{until 1{}}", 10, ENDED, 0, 10);
    }

    private void limits() {
        freshRuns("wash;wash;wash;", 3, DONE, 0, 3);
        freshRuns("wash;wash;rest 1;", 2, ENDED, 0, 2);
        checks.due("that one is not done", house.ran(5), 0);
        freshRuns("rest 5;", 4, ENDED, 0, 4);
        checks.due("HOURS up to the end", house.ran(5), 3);
        checks.due("HOURS of the house", house.count(0), 4);
        freshRuns("rest 5;", 6, DONE, 0, 6);
        freshRuns("times 2{}", 2, ENDED, 0, 2);
        freshRuns("times 2{}", 3, DONE, 0, 3);
        freshRuns("until 0{}", 1, ENDED, 0, 1);
        freshRuns("fail 1;", 1, FAILED, 101, 1);
        freshRuns("wash;fail 1;", 1, ENDED, 0, 1);
        freshRuns("dip 0 5;dip 0 5;", 1, ENDED, 0, 1);
        checks.due("DIPS up to the end", house.ran(3), 1);
        freshRuns("times 50{times 50{times 50{}}}", 5000, ENDED, 0, 5000);
    }

    private void deepBlocks() {
        freshRuns("times 1{".repeat(8) + "fail 8;" + "}".repeat(8), 100, FAILED, 108, 17);
        freshRuns("try{".repeat(8) + "fail 8;" + "}else{}".repeat(8) + "wash;", 100, DONE, 0, 10);
        freshRuns("times 2{".repeat(8) + "}".repeat(8), 5000, DONE, 0, 765);
        freshRuns("do{".repeat(8) + "air;" + "}last{wash;}".repeat(8), 100, FAILED, 3, 17);
    }

    private void singleGrains() {
        house = Houses.sound(101);
        house.cloth(1);
        runs("dip 0 1;air;", 10, DONE, 0, 2);
        checks.due("its one grain", house.ran(4), 1);
        checks.due("is FAST", house.about(0, 2), 1);
    }

    private void noRuns() {
        fresh();
        runs("rest 1;fail 5;", 10, FAILED, 105, 3);
        checks.due("run(8, 0, 1)", house.run(8, 0, 1), VatHouse.NONE);
        checks.due("run(-1, 0, 1)", house.run(-1, 0, 1), VatHouse.NONE);
        checks.due("run(1, 0, 1)", house.run(1, 0, 1), VatHouse.NONE);
        checks.due("run(0, 0, 0)", house.run(0, 0, 0), VatHouse.NONE);
        checks.due("run(0, 0, -1)", house.run(0, 0, -1), VatHouse.NONE);
        checks.due("run(0, 0, 5001)", house.run(0, 0, 5001), VatHouse.NONE);
        house.treat(0, 2);
        checks.due("a DRY CLOTH", house.run(0, 0, 10), VatHouse.NONE);
        checks.due("the latest run stays", house.ran(1), 105);
        checks.due("HOURS stay", house.count(0), 2);
        checks.noSuch("run(0, 1, 10)", () -> house.run(0, 1, 10));
        checks.noSuch("run(0, -1, 10)", () -> house.run(0, -1, 10));
        checks.noSuch("run(9, 1, 0)", () -> house.run(9, 1, 0));
    }
}
