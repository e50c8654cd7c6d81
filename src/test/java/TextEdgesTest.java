/** The edges of "Terms" 2: what is a token, what may stand where, how great a number may be, how many and how deep. */
public final class TextEdgesTest {
    private static final String[] STEP_WORDS = {
        "dip", "air", "wash", "rest", "feed", "lime", "fail", "times", "until", "if", "try", "do",
    };
    private static final String[] OTHER_WORDS = {"else", "last", "shade", "loose", "grains", "food", "hour"};
    /** A text for each N of the grammar, in place of #, with the least and the greatest number that may stand there. */
    private static final String[] NUMBERS = {
        "dip # 1;", "dip 0 #;", "rest #;", "feed # 1;", "feed 0 #;", "lime #;", "fail #;", "times #{}", "until #{}",
        "if grains #<1{}", "if food #<1{}", "if grains #=1{}", "if food #=1{}", "if shade<#{}", "if shade=#{}",
        "if loose<#{}", "if loose=#{}", "if hour<#{}", "if hour=#{}", "if grains 5<#{}", "if grains 5=#{}",
        "if food 5<#{}", "if food 5=#{}",
    };
    private static final int[] LEAST = {0, 1, 1, 0, 1, 0, 1};
    private static final int[] GREATEST = {5, 20, 200, 5, 1000, 5, 99, 50, 200, 5, 5, 5, 5};
    /** Each block of the grammar, in place of #. */
    private static final String[] BLOCKS = {
        "times 1#", "until 1#", "if hour<1#", "if hour<1{}else#", "try#else{}", "try{}else#", "do#last{}", "do{}last#",
    };

    private final Checks checks = new Checks();

    public static void main(String[] args) {
        new TextEdgesTest().all();
    }

    private void all() {
        textsUpToTheWholeTape();
        everyByteBetweenTokens();
        everyByteAsAToken();
        wordsAreTheLongestRows();
        everyWordAtAStepsPlace();
        blanksEndTokens();
        numbersOfFourDigits();
        leastAndGreatestNumbers();
        longNumbersElsewhere();
        textsThatEndTooSoon();
        theFirstFaultCounts();
        eightBlocks();
        threeHundredSteps();
        checks.end();
    }

    private void reads(String text, int fault, int place) {
        VatHouse house = new VatHouse();
        String told = text.length() > 90 ? text.substring(0, 90) + " .." : text;
        checks.due("recipe of '" + told + "'", Houses.read(house, 0, text), fault);
        checks.due("fault(0) of '" + told + "'", house.fault(0), fault);
        checks.due("fault(1) of '" + told + "'", house.fault(1), place);
    }

    private void good(String text) {
        reads(text, 0, VatHouse.NONE);
    }

    private void textsUpToTheWholeTape() {
        checks.sentence("TEXTS, at most 1500 bytes");
        good("");
        good(" ");
        for (int length = 1498; length <= 1500; length++) {
            good("air;" + " ".repeat(length - 8) + "air;");
            reads("air;" + " ".repeat(length - 8) + "air ", 1, length);
            reads(" ".repeat(length - 1) + "%", 1, length - 1);
        }
    }

    private void everyByteBetweenTokens() {
        checks.sentence("blanks (32, 10) count for nothing between them");
        for (int sign = 0; sign < 256; sign++) {
            String text = "rest" + (char) sign + "1;";
            if (sign == 32 || sign == 10 || sign >= '0' && sign <= '9') {
                good(text);
            } else {
                reads(text, 1, sign >= 'a' && sign <= 'z' ? 0 : 4);
            }
            if (sign == 32 || sign == 10) {
                good((char) sign + "rest" + (char) sign + "1" + (char) sign + ";" + (char) sign);
                good("rest 1" + (char) sign + ";");
            }
        }
    }

    private void everyByteAsAToken() {
        checks.sentence("1 a TOKEN that can't stand there, or is none, a row of letters that is no WORD");
        for (int sign = 0; sign < 256; sign++) {
            boolean blank = sign == 32 || sign == 10;
            reads("air;" + (char) sign, blank ? 0 : 1, blank ? VatHouse.NONE : 4);
            reads("times 1" + (char) sign + "}", sign == '{' ? 0 : 1, sign == '{' ? VatHouse.NONE
                : sign >= '0' && sign <= '9' || blank ? 7 + 1 : 7);
            reads("times 1{" + (char) sign, sign == '}' ? 0 : 1, sign == '}' ? VatHouse.NONE : blank ? 9 : 8);
            boolean compares = sign == '<' || sign == '=';
            reads("if hour" + (char) sign + " 1{}", compares ? 0 : 1, compares ? VatHouse.NONE
                : sign >= 'a' && sign <= 'z' ? 3 : blank ? 9 : 7);
        }
    }

    private void wordsAreTheLongestRows() {
        checks.sentence("WORDS (a .. z; the longest row of them)");
        for (String word : STEP_WORDS) {
            reads(word.substring(1), 1, 0);
            reads(word + "x", 1, 0);
            reads("x" + word, 1, 0);
            reads(word + word, 1, 0);
            reads(word.toUpperCase(), 1, 0);
            reads("air; " + word.substring(0, word.length() - 1), 1, 5);
        }
        for (String word : OTHER_WORDS) {
            reads("if " + word + "x<1{}", 1, 3);
            reads("if " + word.substring(1) + "<1{}", 1, 3);
        }
        good("times1{air;}times1{}if shade<1{}else{}do{}last{}");
        reads("if hour<1{}elsewash;", 1, 11);
        reads("do{}lasts{}", 1, 4);
        good("rest1;dip0 1;");
    }

    private void everyWordAtAStepsPlace() {
        checks.sentence("RECIPE: STEP*");
        for (String word : STEP_WORDS) {
            reads(word, 1, word.length());
            reads("times 1{" + word, 1, 8 + word.length());
        }
        for (String word : OTHER_WORDS) {
            reads(word, 1, 0);
            reads("air;" + word + ";", 1, 4);
            reads("times 1{" + word + ";}", 1, 8);
        }
        for (String word : new String[] {"else", "last", "air", "times"}) {
            reads("if " + word + "<1{}", 1, 3);
            reads("dip " + word + " 1;", 1, 4);
        }
        good("if shade<1{}if loose<1{}if hour<1{}if grains 1<1{}if food 1<1{}");
    }

    private void blanksEndTokens() {
        checks.sentence("blanks (32, 10) count for nothing between them");
        reads("w ash;", 1, 0);
        reads("rest 1 0;", 1, 7);
        good("rest 10;");
        reads("dip 01;", 1, 6);
        good("dip 0 1;");
        good("\n\n dip\n\n0 \n 1 \n; \n");
        good("try{}else{}do{}last{}if grains 1=1{}else{}");
        good("try { } else { } do { } last { } if grains 1 = 1 { } else { } ");
    }

    private void numbersOfFourDigits() {
        checks.sentence("NUMBERS (1 to 4 digits)");
        good("if shade<0{}");
        good("if shade<9999{}");
        good("if shade<0000{}");
        good("rest 1;rest 01;rest 001;rest 0001;");
        checks.sentence("2 a NUMBER of more than 4 digits");
        reads("if shade<00000{}", 2, 9);
        reads("if shade<10000{}", 2, 9);
        reads("rest 00001;", 2, 5);
        reads("rest 4294967297;", 2, 5);
        reads("rest 18446744073709551617;", 2, 5);
        reads("dip 00000 1;", 2, 4);
        reads("dip 0 00001;", 2, 6);
        reads("times 00001{}", 2, 6);
        reads("rest " + "0".repeat(1493) + "1;", 2, 5);
    }

    private void leastAndGreatestNumbers() {
        checks.sentence("or one that is too great");
        for (int i = 0; i < NUMBERS.length; i++) {
            int least = i < LEAST.length ? LEAST[i] : 0;
            int greatest = i < GREATEST.length ? GREATEST[i] : 9999;
            int place = NUMBERS[i].indexOf('#');
            for (int n : new int[] {least, least + 1, greatest - 1, greatest}) {
                good(NUMBERS[i].replace("#", "" + n));
            }
            reads(NUMBERS[i].replace("#", "" + (greatest + 1)), 2, place);
            reads(NUMBERS[i].replace("#", greatest < 9999 ? "9999" : "99999"), 2, place);
            if (least > 0) {
                reads(NUMBERS[i].replace("#", "0"), 2, place);
            }
            reads(NUMBERS[i].replace("#", "-1"), 1, place);
            reads(NUMBERS[i].replace("#", ";"), 1, place);
            reads(NUMBERS[i].replace("#", "air"), 1, place);
        }
    }

    private void longNumbersElsewhere() {
        checks.sentence("1 a TOKEN that can't stand there");
        reads("air;1;", 1, 4);
        reads("air;9999;", 1, 4);
        reads("air;99999;", 1, 4);
        reads("air 99999;", 1, 4);
        reads("rest 1 99999;", 1, 7);
    }

    /** Where a part of a text ends within a word, the fault is that row of letters; else it is the part's length. */
    private void textsThatEndTooSoon() {
        checks.sentence("(the text's length where it ends too soon)");
        String[] steps = {"dip 5 20;", "air ;", "wash;", "rest 120;", "feed 4 1000;", "lime 3;", "fail 99;",
            "times 50{air;wash;}", "until 200 {lime 0;}", "try{air;}else{wash;}", "do{try{}else{}}last{air;}",
            "if grains 5<9999{air;}", "if shade=1{ if loose<2{}else{} air;}"};
        for (String step : steps) {
            for (int length = 1; length < step.length(); length++) {
                String part = "air;" + step.substring(0, length);
                int word = part.length();
                while (Character.isLetter(part.charAt(word - 1))) {
                    word--;
                }
                boolean inWord = word < part.length() && Character.isLetter(step.charAt(length));
                reads(part, 1, inWord ? word : part.length());
                if (!inWord) {
                    reads(part + " \n ", 1, part.length() + 3);
                }
            }
            good("air;" + step);
        }
        good("if hour=1{}");
        reads("if hour=1{}el", 1, 11);
        reads("if hour=1{}else", 1, 15);
        reads("if hour=1{}else{", 1, 16);
    }

    private void theFirstFaultCounts() {
        checks.sentence("FAULTS, the first along the text");
        reads("dip 6 %", 2, 4);
        reads("dip % 99", 1, 4);
        reads("rest 201", 2, 5);
        reads("air;x rest 0;", 1, 4);
        reads("rest 0;x", 2, 5);
        reads("dip 6 0;", 2, 4);
        reads("feed 0 0;lime 9;", 2, 7);
    }

    private void eightBlocks() {
        checks.sentence("a BLOCK's { within 8 other BLOCKS");
        for (String outer : BLOCKS) {
            for (String inner : BLOCKS) {
                good(nested(outer, 6, inner.replace("#", "{}")));
                good(nested(outer, 7, inner.replace("#", "{air;}")));
                String deep = nested(outer, 8, inner.replace("#", "{air;}"));
                int first = nested(outer, 8, "~").indexOf('~');
                reads(deep, 2, first + inner.replace('#', '{').indexOf('{'));
            }
        }
        String eight = "times 1{".repeat(8);
        good(eight + "air;" + "}".repeat(8));
        reads(eight + "{}" + "}".repeat(8), 1, 64);
        reads(eight + "times 1 ;" + "}".repeat(8), 1, 72);
        reads(eight + "times 51{}" + "}".repeat(8), 2, 70);
        good(("times 1{".repeat(8) + "}".repeat(8)).repeat(2));
    }

    private static String nested(String block, int depth, String inmost) {
        String text = inmost;
        for (int i = 0; i < depth; i++) {
            text = block.replace("#", "{" + text + "}");
        }
        return text;
    }

    private void threeHundredSteps() {
        checks.sentence("the 301st STEP (at its WORD)");
        for (int steps = 299; steps <= 300; steps++) {
            VatHouse house = new VatHouse();
            checks.due("recipe of " + steps, Houses.read(house, 0, "air;".repeat(steps)), 0);
            checks.due("STEPS of it", house.count(5), steps);
        }
        for (String word : STEP_WORDS) {
            reads("air;".repeat(300) + " " + word, 2, 1201);
            reads("air;".repeat(299) + " " + word, 1, 1197 + word.length());
        }
        reads("air;".repeat(301), 2, 1200);
        reads("air;".repeat(302), 2, 1200);
        reads("air;".repeat(300) + "airs;", 1, 1200);
        reads("air;".repeat(300) + "last", 1, 1200);
        reads("air;".repeat(300) + ";", 1, 1200);
        good("times 1{" + "air;".repeat(299) + "}");
        reads("times 1{" + "air;".repeat(300) + "}", 2, 1204);
        good("try{" + "air;".repeat(149) + "}else{" + "air;".repeat(150) + "}");
        reads("try{" + "air;".repeat(149) + "}else{" + "air;".repeat(150) + "}do{}last{}", 2, 1207);
        reads("air;".repeat(299) + "if hour<1{}else{air;}", 2, 1196 + 16);
    }
}
