/** Promise 10. */
public final class RecipeTest {
    private static final String[] GOOD = {
        "", "  \n ", "air;", "air ;", "dip0 1;", "dip\n5\n20\n;", "dip 0005 0020;", "wash;rest 1;rest 200;",
        "feed 0 1;feed 5 1000;", "lime 0;lime 5;", "fail 1;fail 99;", "times 0{}", "times 50{air;}",
        "until 0{}until 200{air;}", "if shade<0{}", "if loose=9999{air;}else{wash;}", "if hour<23{}else{}",
        "if grains 5=0{}", "if food 0<1{}", "try{}else{}", "do{}last{}",
        "try{do{air;}last{}}else{if shade=1{}else{}}air;", "if hour=1{}if hour=2{}else{}",
        "times 1{times 1{times 1{times 1{times 1{times 1{times 1{times 1{air;}}}}}}}}",
    };
    private static final int[] GOOD_STEPS = {
        0, 0, 1, 1, 1, 1, 1, 3, 2, 2, 2, 1, 2, 3, 1, 3, 1, 1, 1, 1, 1, 5, 2, 9,
    };

    public static void main(String[] args) {
        Checks checks = new Checks();
        goodTextsAreRead(checks);
        misplacedTokens(checks);
        tooGreatNumbers(checks);
        tooManyBlocks(checks);
        tooManySteps(checks);
        longestTexts(checks);
        theTapeIsTakenUp(checks);
        recipesAreReplaced(checks);
        wrongInputsChangeNothing(checks);
        checks.end();
    }

    private static void goodTextsAreRead(Checks checks) {
        VatHouse house = new VatHouse();
        for (int i = 0; i < GOOD.length; i++) {
            checks.due("'" + GOOD[i] + "'", Houses.read(house, i % 8, GOOD[i]), 0);
            checks.due("place in it", house.fault(1), VatHouse.NONE);
            checks.due("STEPS of '" + GOOD[i] + "'", house.count(5), GOOD_STEPS[i]);
        }
    }

    private static void bad(Checks checks, String text, int fault, int place) {
        VatHouse house = new VatHouse();
        checks.due("'" + text + "'", Houses.read(house, 0, text), fault);
        checks.due("fault(0) of '" + text + "'", house.fault(0), fault);
        checks.due("fault(1) of '" + text + "'", house.fault(1), place);
    }

    private static void misplacedTokens(Checks checks) {
        bad(checks, "dip 1;", 1, 5);
        bad(checks, "dip ;", 1, 4);
        bad(checks, "dip 1 2", 1, 7);
        bad(checks, "dip 1 2  ", 1, 9);
        bad(checks, "dip", 1, 3);
        bad(checks, "air", 1, 3);
        bad(checks, "air 1;", 1, 4);
        bad(checks, "air;;", 1, 4);
        bad(checks, "airs;", 1, 0);
        bad(checks, "ai r;", 1, 0);
        bad(checks, "airwash;", 1, 0);
        bad(checks, "d;", 1, 0);
        bad(checks, "airz;", 1, 0);
        bad(checks, "aair;", 1, 0);
        bad(checks, "air; Air;", 1, 5);
        bad(checks, "air\t;", 1, 3);
        bad(checks, "air;\r", 1, 4);
        bad(checks, "rest -1;", 1, 5);
        bad(checks, "rest 1 1;", 1, 7);
        bad(checks, "feed 0;", 1, 6);
        bad(checks, "lime 0 0;", 1, 7);
        bad(checks, "1;", 1, 0);
        bad(checks, "}", 1, 0);
        bad(checks, "{}", 1, 0);
        bad(checks, "air;}", 1, 4);
        bad(checks, "else{}", 1, 0);
        bad(checks, "last{}", 1, 0);
        bad(checks, "shade;", 1, 0);
        bad(checks, "times{}", 1, 5);
        bad(checks, "times 2 air;", 1, 8);
        bad(checks, "times 2{air;", 1, 12);
        bad(checks, "until 2;", 1, 7);
        bad(checks, "if{}", 1, 2);
        bad(checks, "if air<1{}", 1, 3);
        bad(checks, "if shade 1<1{}", 1, 9);
        bad(checks, "if grains<1{}", 1, 9);
        bad(checks, "if food 1{}", 1, 9);
        bad(checks, "if hour>1{}", 1, 7);
        bad(checks, "if hour<{}", 1, 8);
        bad(checks, "if hour<=1{}", 1, 8);
        bad(checks, "if hour=1 air;", 1, 10);
        bad(checks, "if hour=1{}else air;", 1, 16);
        bad(checks, "if hour=1{}else{}else{}", 1, 17);
        bad(checks, "if hour=1{}last{}", 1, 11);
        bad(checks, "try{}", 1, 5);
        bad(checks, "try{}air;", 1, 5);
        bad(checks, "try{}last{}", 1, 5);
        bad(checks, "do{}", 1, 4);
        bad(checks, "do{}else{}", 1, 4);
        bad(checks, "do{}last", 1, 8);
        bad(checks, "air;\u0000", 1, 4);
        bad(checks, "air;\u00ff", 1, 4);
        bad(checks, "air;12345;", 1, 4);
        bad(checks, "air;%dip 9 9;", 1, 4);
    }

    private static void tooGreatNumbers(Checks checks) {
        bad(checks, "dip 6 1;", 2, 4);
        bad(checks, "dip 0 0;", 2, 6);
        bad(checks, "dip 0 21;", 2, 6);
        bad(checks, "dip 00000 1;", 2, 4);
        bad(checks, "rest 0;", 2, 5);
        bad(checks, "rest 201;", 2, 5);
        bad(checks, "feed 6 1;", 2, 5);
        bad(checks, "feed 0 0;", 2, 7);
        bad(checks, "feed 0 1001;", 2, 7);
        bad(checks, "lime 6;", 2, 5);
        bad(checks, "fail 0;", 2, 5);
        bad(checks, "fail 100;", 2, 5);
        bad(checks, "fail 4294967297;", 2, 5);
        bad(checks, "times 51{}", 2, 6);
        bad(checks, "until 201{}", 2, 6);
        bad(checks, "if grains 6<1{}", 2, 10);
        bad(checks, "if food 6<1{}", 2, 8);
        bad(checks, "if shade<10000{}", 2, 9);
        bad(checks, "dip 6 %", 2, 4);
        bad(checks, "lime 6", 2, 5);
    }

    private static void tooManyBlocks(Checks checks) {
        String eight = "times 1{".repeat(8);
        bad(checks, eight + "times 1{}" + "}".repeat(8), 2, 71);
        bad(checks, eight + "if hour<1{}" + "}".repeat(8), 2, 73);
        bad(checks, eight + "try{}else{}" + "}".repeat(8), 2, 67);
        bad(checks, eight + "times 1 air;" + "}".repeat(8), 1, 72);
        VatHouse house = new VatHouse();
        String sevenAndTwo = "do{".repeat(7) + "do{}last{air;}" + "}last{}".repeat(7) + "air;";
        checks.due("8 and 8 blocks", Houses.read(house, 0, sevenAndTwo), 0);
        checks.due("their STEPS", house.count(5), 10);
    }

    private static void tooManySteps(Checks checks) {
        VatHouse house = new VatHouse();
        checks.due("300 STEPS", Houses.read(house, 0, "air;".repeat(300)), 0);
        checks.due("count(5)", house.count(5), 300);
        bad(checks, "air;".repeat(300) + " air;", 2, 1201);
        bad(checks, "air;".repeat(300) + "dip", 2, 1200);
        bad(checks, "air;".repeat(300) + "else", 1, 1200);
        bad(checks, "air;".repeat(298) + "times 1{air;times 1{", 2, 1204);
    }

    private static void longestTexts(Checks checks) {
        VatHouse house = new VatHouse();
        String text = " ".repeat(1495) + "wash;";
        checks.due("1500 bytes", Houses.read(house, 0, text), 0);
        checks.due("STEPS of it", house.count(5), 1);
        bad(checks, " ".repeat(1496) + "wash", 1, 1500);
        bad(checks, ";".repeat(1500), 1, 0);
        bad(checks, "fail " + "9".repeat(1495), 2, 5);
        bad(checks, "z".repeat(1500), 1, 0);
    }

    private static void theTapeIsTakenUp(Checks checks) {
        VatHouse house = new VatHouse();
        Houses.write(house, "air;%%%%%%%%%%%%%%%%");
        checks.due("the first bytes alone", house.recipe(0, 4), 0);
        checks.due("the tape is empty", house.count(4), 0);
        Houses.write(house, "wash;dip 9 9;");
        checks.due("a FAULT", house.recipe(0, 13), 2);
        checks.due("the tape is empty, too", house.count(4), 0);
        Houses.write(house, "air;air;air;air;air;");
        checks.due("a part that ends too soon", house.recipe(0, 7), 1);
        checks.due("its place", house.fault(1), 7);
    }

    private static void recipesAreReplaced(Checks checks) {
        VatHouse house = new VatHouse();
        house.cloth(1);
        Houses.read(house, 7, "fail 1;");
        house.run(7, 0, 10);
        checks.due("the first one", house.ran(1), 101);
        Houses.read(house, 7, "fail 2");
        house.run(7, 0, 10);
        checks.due("it stays at a FAULT", house.ran(1), 101);
        checks.due("STEPS stay those of the one that was read", house.count(5), 1);
        Houses.read(house, 7, "fail 3;");
        house.run(7, 0, 10);
        checks.due("another in its place", house.ran(1), 103);
        Houses.read(house, 6, "fail 4;");
        house.run(7, 0, 10);
        checks.due("another number's does not touch it", house.ran(1), 103);
        Houses.read(house, 7, "");
        checks.due("one without STEPS", house.run(7, 0, 10), 0);
    }

    private static void wrongInputsChangeNothing(Checks checks) {
        VatHouse house = new VatHouse();
        Houses.read(house, 0, "rest 0;");
        Houses.write(house, "air;");
        checks.illegal("recipe(8, 4)", () -> house.recipe(8, 4));
        checks.illegal("recipe(-1, 4)", () -> house.recipe(-1, 4));
        checks.illegal("recipe(0, 21)", () -> house.recipe(0, 21));
        checks.illegal("recipe(0, -1)", () -> house.recipe(0, -1));
        checks.due("the tape stays", house.count(4), 20);
        checks.due("the FAULT stays", house.fault(0), 2);
        checks.due("its place stays", house.fault(1), 5);
        checks.due("all of the tape", house.recipe(0, 20), 0);
    }
}
