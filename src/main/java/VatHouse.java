import java.util.NoSuchElementException;

/** A house of living vats; what each call promises stands in the document, under the call's name. */
public final class VatHouse {
    public static final int NONE = -1;

    private static final int VATS = 6;
    private static final int MOST_GRAINS = 1000000;
    private static final int MOST_FOOD = 1000;
    private static final int FOOD_AN_HOUR = 5;
    private static final int MINUTES_TILL_TIRED = 60;
    private static final int SOUND = 0;
    private static final int TIRED = 1;
    private static final int SICK = 2;

    private static final int MOST_CLOTHS = 30;
    private static final int MOST_WEIGHT = 50;
    private static final int GRAINS_A_WEIGHT = 200;
    private static final int MOST_MINUTES = 20;
    private static final int HOURS_A_DAY = 24;
    private static final int MOST_HOURS = 10000;
    private static final int LAST_DAY = 1000000;

    private static final int TAPE_BYTES = 1500;
    private static final int RECIPES = 8;
    private static final int MOST_STEPS = 300;
    private static final int MOST_BLOCKS = 8;
    private static final int MOST_LIMIT = 5000;
    private static final int MOST_PLANNED = 3;

    /** The WORDS, each with a blank behind it; a WORD's number is its place here, counted from 1. */
    private static final String WORDS =
        "dip air wash rest feed lime fail times until if try do else last shade loose grains food hour ";
    private static final int DIP = 1;
    private static final int AIR = 2;
    private static final int WASH = 3;
    private static final int REST = 4;
    private static final int FEED = 5;
    private static final int LIME = 6;
    private static final int FAIL = 7;
    private static final int TIMES = 8;
    private static final int UNTIL = 9;
    private static final int IF = 10;
    private static final int TRY = 11;
    private static final int DO = 12;
    private static final int ELSE = 13;
    private static final int LAST = 14;
    private static final int SHADE = 15;
    private static final int LOOSE = 16;
    private static final int GRAINS = 17;
    private static final int FOOD = 18;
    private static final int HOUR = 19;

    private final Works works;
    private final Cloth[] cloths;
    private int clothsMade;
    private int grainsPutIn;
    private final byte[] tape;
    private int tapeLength;
    private final Reader reader;
    private final Recipe[] recipes;
    private int stepsRead;
    private final Runner runner;
    private final Planner planner;

    public VatHouse() {
        works = new Works();
        cloths = new Cloth[MOST_CLOTHS];
        tape = new byte[TAPE_BYTES];
        reader = new Reader(tape);
        recipes = new Recipe[RECIPES];
        runner = new Runner(works);
        planner = new Planner(works);
    }

    public int charge(int vat, int n) throws NoSuchElementException {
        Vat charged = works.vatAt(vat);
        if (n < 1 || n > MOST_GRAINS - charged.grains) {
            return NONE;
        }
        charged.grains += n;
        grainsPutIn += n;
        return charged.grains;
    }

    public int feed(int vat, int n) throws NoSuchElementException, IllegalArgumentException {
        Vat fed = works.vatAt(vat);
        demand(n >= 1 && n <= MOST_FOOD);
        fed.takeFood(n);
        return fed.state;
    }

    public int lime(int vat) throws NoSuchElementException {
        Vat limed = works.vatAt(vat);
        limed.takeLime();
        return limed.state;
    }

    public int hours(int n) throws IllegalArgumentException {
        demand(n >= 0 && n <= MOST_HOURS);
        works.passHours(n);
        return works.hours;
    }

    public int cloth(int weight) {
        if (clothsMade < 0 || clothsMade >= cloths.length || weight < 1 || weight > MOST_WEIGHT) {
            return NONE;
        }
        cloths[clothsMade] = new Cloth(clothsMade, weight);
        clothsMade++;
        return clothsMade - 1;
    }

    public int dip(int cloth, int vat, int minutes) throws NoSuchElementException, IllegalArgumentException {
        Cloth dipped = clothAt(cloth);
        Vat dippedIn = works.vatAt(vat);
        demand(minutes >= 1 && minutes <= MOST_MINUTES);
        if (dippedIn.state == SICK || dipped.dry) {
            return NONE;
        }
        int moved = dippedIn.givesTo(dipped, minutes);
        works.dipInto(dippedIn, dipped, minutes, moved);
        return moved;
    }

    public int treat(int cloth, int what) throws NoSuchElementException, IllegalArgumentException {
        Cloth treated = clothAt(cloth);
        demand(what >= 0 && what <= 2);
        if (treated.dry) {
            return NONE;
        }
        switch (what) {
            case 0:
                return works.airOut(treated);
            case 1:
                return works.washOut(treated);
            default:
                return works.dryOut(treated);
        }
    }

    public int put(int a, int b, int c, int d, int e) {
        if (tapeLength > tape.length - 20) {
            return NONE;
        }
        append(a);
        append(b);
        append(c);
        append(d);
        append(e);
        return tapeLength;
    }

    public int recipe(int r, int n) throws IllegalArgumentException {
        demand(r >= 0 && r < recipes.length && n >= 0 && n <= tapeLength);
        Step first = reader.readRecipe(n);
        tapeLength = 0;
        if (reader.fault == 0) {
            recipes[r] = new Recipe(first);
            stepsRead = reader.steps;
        }
        return reader.fault;
    }

    public int fault(int what) throws NoSuchElementException {
        switch (what) {
            case 0:
                return reader.fault;
            case 1:
                return reader.place;
            default:
                throw new NoSuchElementException("no such what");
        }
    }

    public int run(int recipe, int cloth, int limit) throws NoSuchElementException {
        Cloth worked = clothAt(cloth);
        if (recipe < 0 || recipe >= recipes.length || limit < 1 || limit > MOST_LIMIT) {
            return NONE;
        }
        Recipe followed = recipes[recipe];
        if (followed == null || worked.dry) {
            return NONE;
        }
        return runner.follow(followed.first, worked, limit);
    }

    public int ran(int what) throws NoSuchElementException {
        switch (what) {
            case 0:
                return runner.result;
            case 1:
                return runner.failure;
            case 2:
                return runner.counted;
            case 3:
                return runner.dipsDone;
            case 4:
                return runner.grainsMoved;
            case 5:
                return runner.hoursRested;
            default:
                throw new NoSuchElementException("no such what");
        }
    }

    public int plan(int cloth, int low, int high, int most)
            throws NoSuchElementException, IllegalArgumentException {
        Cloth planned = clothAt(cloth);
        demand(most >= 0 && most <= MOST_PLANNED && low >= 0 && low <= high);
        if (planned.dry) {
            return NONE;
        }
        return planner.fewest(planned, low, high, most);
    }

    public int planned(int i, int what) throws NoSuchElementException {
        if (i < 0 || i >= planner.kept || i >= MOST_PLANNED) {
            throw new NoSuchElementException("no such dip");
        }
        switch (what) {
            case 0:
                return planner.keptVats[i];
            case 1:
                return planner.keptMinutes[i];
            case 2:
                return planner.keptShades[i];
            default:
                throw new NoSuchElementException("no such what");
        }
    }

    public int vat(int vat, int what) throws NoSuchElementException {
        Vat asked = works.vatAt(vat);
        switch (what) {
            case 0:
                return asked.grains;
            case 1:
                return asked.food;
            case 2:
                return asked.minutes;
            case 3:
                return asked.state;
            case 4:
                return asked.dips;
            case 5:
                return asked.clothBits;
            default:
                throw new NoSuchElementException("no such what");
        }
    }

    public int about(int cloth, int what) throws NoSuchElementException {
        Cloth asked = clothAt(cloth);
        switch (what) {
            case 0:
                return asked.weight;
            case 1:
                return asked.loose;
            case 2:
                return asked.fast;
            case 3:
                return asked.shade();
            case 4:
                return asked.dry ? 1 : 0;
            case 5:
                return asked.day;
            case 6:
                return asked.vatBits;
            case 7:
                return asked.dips;
            default:
                throw new NoSuchElementException("no such what");
        }
    }

    public int count(int what) throws NoSuchElementException {
        switch (what) {
            case 0:
                return works.hours;
            case 1:
                return works.drain;
            case 2:
                return clothsMade;
            case 3:
                return grainsPutIn;
            case 4:
                return tapeLength;
            case 5:
                return stepsRead;
            default:
                throw new NoSuchElementException("no such what");
        }
    }

    public int faded(int cloth, int day, int what) throws NoSuchElementException, IllegalArgumentException {
        Cloth asked = clothAt(cloth);
        demand(what >= 0 && what <= 1 && day >= 0 && day <= LAST_DAY);
        if (!asked.hasSpan(day)) {
            return NONE;
        }
        return what == 0 ? asked.leastShade(day) : asked.greatestShade(day);
    }

    public int matching(int cloth, int day) throws NoSuchElementException, IllegalArgumentException {
        Cloth asked = clothAt(cloth);
        demand(day >= 0 && day <= LAST_DAY);
        int bits = 0;
        for (int i = 0; i < clothsMade && i < cloths.length; i++) {
            Cloth other = cloths[i];
            if (other != null && i != cloth && asked.spanMeets(other, day)) {
                bits |= 1 << i;
            }
        }
        return bits;
    }

    private Cloth clothAt(int number) {
        if (number < 0 || number >= clothsMade || number >= cloths.length) {
            throw new NoSuchElementException("no such cloth");
        }
        Cloth found = cloths[number];
        if (found == null) {
            throw new NoSuchElementException("no such cloth");
        }
        return found;
    }

    private static void demand(boolean allowed) {
        if (!allowed) {
            throw new IllegalArgumentException("out of range");
        }
    }

    private void append(int fourBytes) {
        for (int shift = 24; shift >= 0; shift -= 8) {
            if (tapeLength >= 0 && tapeLength < tape.length) {
                tape[tapeLength] = (byte) (fourBytes >> shift);
                tapeLength++;
            }
        }
    }

    private static final class Vat {
        final int number;
        int grains;
        int food;
        int minutes;
        int state = SICK;
        int dips;
        int clothBits;
        /** At first so early that neither hour 0 nor the one ahead of it had a dip. */
        int lastDipped = -2;

        Vat(int number) {
            this.number = number;
        }

        int givesTo(Cloth cloth, int m) {
            int divisor = 100 + cloth.weight;
            if (state == SICK || divisor < 1) {
                return 0;
            }
            int moved = grains * m / divisor;
            if (state == TIRED) {
                moved = moved / 2;
            }
            return Math.min(moved, cloth.room());
        }

        /** What moves comes from givesTo() ahead of this, since it goes by the STATE ahead of the dip. */
        void soak(Cloth cloth, int m, int moved) {
            grains -= moved;
            cloth.loose += moved;
            minutes += m;
            if (minutes > MINUTES_TILL_TIRED) {
                state = TIRED;
            }
            food -= m;
            if (food < 1) {
                food = 0;
                state = SICK;
            }
        }

        boolean takeFood(int n) {
            food += n;
            if (food <= MOST_FOOD) {
                return true;
            }
            food = MOST_FOOD;
            state = SICK;
            return false;
        }

        void takeLime() {
            if (state == SICK) {
                minutes = 0;
                if (food > 0) {
                    state = TIRED;
                }
            }
            food = food / 2;
        }

        void liveThrough(int hour) {
            food = Math.max(0, food - FOOD_AN_HOUR);
            if (food == 0) {
                state = SICK;
            } else if (state != SICK && lastDipped < hour - 1) {
                state = SOUND;
                minutes = 0;
            }
        }

        void copyFrom(Vat other) {
            grains = other.grains;
            food = other.food;
            minutes = other.minutes;
            state = other.state;
        }
    }

    private static final class Cloth {
        final int number;
        int weight;
        int loose;
        int fast;
        boolean dry;
        int day = NONE;
        int vatBits;
        int dips;

        Cloth(int number, int weight) {
            this.number = number;
            this.weight = weight;
        }

        int shade() {
            return weight < 1 ? 0 : fast / weight;
        }

        int room() {
            return GRAINS_A_WEIGHT * weight - loose - fast;
        }

        int loseByAir() {
            int lost = loose / 8;
            fast += loose - lost;
            loose = 0;
            return lost;
        }

        int loseByWash() {
            int lostFast = fast / 20;
            int lost = loose + lostFast;
            fast -= lostFast;
            loose = 0;
            return lost;
        }

        boolean hasSpan(int atDay) {
            return dry && atDay >= day;
        }

        int leastShade(int atDay) {
            return Math.max(0, shade() - 3 * (atDay - day) / 100);
        }

        int greatestShade(int atDay) {
            return Math.max(0, shade() - (atDay - day) / 100);
        }

        boolean spanMeets(Cloth other, int atDay) {
            return hasSpan(atDay) && other.hasSpan(atDay)
                && leastShade(atDay) <= other.greatestShade(atDay)
                && other.leastShade(atDay) <= greatestShade(atDay);
        }

        void copyFrom(Cloth other) {
            weight = other.weight;
            loose = other.loose;
            fast = other.fast;
        }
    }

    /** The vats, the clock and the drain: what a call from outside and a step of a recipe both work on. */
    private static final class Works {
        final Vat[] vats = new Vat[VATS];
        int hours;
        int drain;

        Works() {
            for (int i = 0; i < vats.length; i++) {
                vats[i] = new Vat(i);
            }
        }

        Vat vatAt(int number) {
            if (number < 0 || number >= vats.length) {
                throw new NoSuchElementException("no such vat");
            }
            return vats[number];
        }

        void dipInto(Vat vat, Cloth cloth, int m, int moved) {
            vat.soak(cloth, m, moved);
            vat.lastDipped = hours;
            vat.dips++;
            vat.clothBits |= 1 << cloth.number;
            cloth.dips++;
            cloth.vatBits |= 1 << vat.number;
        }

        int airOut(Cloth cloth) {
            int lost = cloth.loseByAir();
            drain += lost;
            return lost;
        }

        int washOut(Cloth cloth) {
            int lost = cloth.loseByWash();
            drain += lost;
            return lost;
        }

        int dryOut(Cloth cloth) {
            int lost = airOut(cloth);
            cloth.dry = true;
            cloth.day = hours / HOURS_A_DAY;
            return lost;
        }

        void passHour() {
            for (int i = 0; i < vats.length; i++) {
                vats[i].liveThrough(hours);
            }
            hours++;
        }

        /** By then the fullest vat has starved, and the hours behind change no vat any more. */
        void passHours(int n) {
            int felt = Math.min(n, MOST_FOOD / FOOD_AN_HOUR);
            for (int i = 0; i < felt; i++) {
                passHour();
            }
            hours += n - felt;
        }
    }

    /** One STEP; its vat, number, look and blocks are used as its word asks. */
    private static final class Step {
        final int word;
        int vat;
        int number;
        int look;
        boolean below;
        Step block;
        Step other;
        Step next;

        Step(int word) {
            this.word = word;
        }
    }

    /** So that a recipe without steps differs from no recipe. */
    private static final class Recipe {
        final Step first;

        Recipe(Step first) {
            this.first = first;
        }
    }

    /** A text's TOKENS in rows, with an END behind them. */
    private static final class Tokens {
        static final int END = 0;
        static final int NUMBER = -1;
        static final int LONG_NUMBER = -2;
        static final int NO_TOKEN = -3;
        /** No byte is as great. */
        private static final int BEHIND_TEXT = 256;

        private final byte[] text;
        private int length;
        private int at;
        int size;
        /** Of each token a WORD's number, a sign's own byte, or one of the four kinds above. */
        final int[] kinds = new int[TAPE_BYTES + 1];
        final int[] starts = new int[TAPE_BYTES + 1];
        final int[] values = new int[TAPE_BYTES + 1];

        Tokens(byte[] text) {
            this.text = text;
        }

        void split(int n) {
            length = Math.max(0, Math.min(n, text.length));
            at = 0;
            size = 0;
            for (int i = 0; i < length && at < length; i++) {
                if (isBlank(byteAt(at))) {
                    at++;
                } else {
                    addToken();
                }
            }
            keep(END, length, 0);
        }

        private void addToken() {
            int sign = byteAt(at);
            if (isLetter(sign)) {
                addLetters();
            } else if (isDigit(sign)) {
                addDigits();
            } else {
                keep(isSign(sign) ? sign : NO_TOKEN, at, 0);
                at++;
            }
        }

        private void addLetters() {
            int start = at;
            while (at < length && isLetter(byteAt(at))) {
                at++;
            }
            keep(wordNumber(start), start, 0);
        }

        /** Digits behind the fourth are passed over: the number is refused, and would outgrow an int. */
        private void addDigits() {
            int start = at;
            int value = 0;
            while (at < length && isDigit(byteAt(at))) {
                if (at - start < 4) {
                    value = value * 10 + byteAt(at) - '0';
                }
                at++;
            }
            keep(at - start > 4 ? LONG_NUMBER : NUMBER, start, value);
        }

        private void keep(int kind, int start, int value) {
            if (size >= 0 && size < kinds.length) {
                kinds[size] = kind;
                starts[size] = start;
                values[size] = value;
                size++;
            }
        }

        private int wordNumber(int start) {
            int number = 1;
            int wordStart = 0;
            for (int i = 0; i < WORDS.length(); i++) {
                if (WORDS.charAt(i) == ' ') {
                    if (isWord(wordStart, i, start)) {
                        return number;
                    }
                    number++;
                    wordStart = i + 1;
                }
            }
            return NO_TOKEN;
        }

        private boolean isWord(int wordStart, int wordEnd, int start) {
            if (wordEnd - wordStart != at - start) {
                return false;
            }
            for (int i = wordStart; i < wordEnd; i++) {
                if (WORDS.charAt(i) != byteAt(start + i - wordStart)) {
                    return false;
                }
            }
            return true;
        }

        private int byteAt(int i) {
            return i < 0 || i >= length || i >= text.length ? BEHIND_TEXT : text[i];
        }

        private static boolean isBlank(int sign) {
            return sign == ' ' || sign == '\n';
        }

        private static boolean isLetter(int sign) {
            return sign >= 'a' && sign <= 'z';
        }

        private static boolean isDigit(int sign) {
            return sign >= '0' && sign <= '9';
        }

        private static boolean isSign(int sign) {
            return sign == ';' || sign == '{' || sign == '}' || sign == '<' || sign == '=';
        }
    }

    /** Reads a text's tokens along the grammar; behind the first fault nothing is read any more. */
    private static final class Reader {
        private static final int MISPLACED = 1;
        private static final int TOO_GREAT = 2;

        private final Tokens tokens;
        private int at;
        private int token;
        int fault;
        int place = NONE;
        int steps;

        Reader(byte[] text) {
            tokens = new Tokens(text);
        }

        Step readRecipe(int n) {
            tokens.split(n);
            fault = 0;
            place = NONE;
            steps = 0;
            moveTo(0);
            Step first = readSteps(0);
            pass(Tokens.END);
            return first;
        }

        private Step readSteps(int depth) {
            Step first = null;
            Step latest = null;
            for (int i = 0; i <= MOST_STEPS && fault == 0 && token >= DIP && token <= DO; i++) {
                Step step = readStep(depth);
                if (latest == null) {
                    first = step;
                } else {
                    latest.next = step;
                }
                latest = step;
            }
            return first;
        }

        private Step readStep(int depth) {
            Step step = new Step(token);
            if (steps >= MOST_STEPS) {
                refuse(TOO_GREAT);
                return step;
            }
            steps++;
            pass(step.word);
            if (step.word < TIMES) {
                readPlain(step);
                pass(';');
            } else {
                readBuilt(step, depth);
            }
            return step;
        }

        private void readPlain(Step step) {
            switch (step.word) {
                case DIP:
                    step.vat = readNumber(0, VATS - 1);
                    step.number = readNumber(1, MOST_MINUTES);
                    break;
                case REST:
                    step.number = readNumber(1, 200);
                    break;
                case FEED:
                    step.vat = readNumber(0, VATS - 1);
                    step.number = readNumber(1, MOST_FOOD);
                    break;
                case LIME:
                    step.vat = readNumber(0, VATS - 1);
                    break;
                case FAIL:
                    step.number = readNumber(1, 99);
                    break;
                default:
                    break;
            }
        }

        private void readBuilt(Step step, int depth) {
            switch (step.word) {
                case TIMES:
                    step.number = readNumber(0, 50);
                    step.block = readBlock(depth);
                    break;
                case UNTIL:
                    step.number = readNumber(0, 200);
                    step.block = readBlock(depth);
                    break;
                case IF:
                    readTest(step);
                    step.block = readBlock(depth);
                    if (token == ELSE) {
                        pass(ELSE);
                        step.other = readBlock(depth);
                    }
                    break;
                default:
                    step.block = readBlock(depth);
                    pass(step.word == TRY ? ELSE : LAST);
                    step.other = readBlock(depth);
                    break;
            }
        }

        private Step readBlock(int depth) {
            if (token == '{' && depth >= MOST_BLOCKS) {
                refuse(TOO_GREAT);
            }
            pass('{');
            if (fault != 0) {
                return null;
            }
            Step first = readSteps(depth + 1);
            pass('}');
            return first;
        }

        private void readTest(Step step) {
            if (token < SHADE || token > HOUR) {
                refuse(MISPLACED);
            }
            step.look = token;
            pass(token);
            if (step.look == GRAINS || step.look == FOOD) {
                step.vat = readNumber(0, VATS - 1);
            }
            step.below = token == '<';
            pass(step.below ? '<' : '=');
            step.number = readNumber(0, 9999);
        }

        /** A number of too many digits is too great only where a number can stand. */
        private int readNumber(int least, int greatest) {
            int value = at >= 0 && at < tokens.values.length ? tokens.values[at] : 0;
            if (token == Tokens.LONG_NUMBER) {
                refuse(TOO_GREAT);
            } else if (token == Tokens.NUMBER && (value < least || value > greatest)) {
                refuse(TOO_GREAT);
            }
            pass(Tokens.NUMBER);
            return value;
        }

        private void pass(int wanted) {
            if (token != wanted) {
                refuse(MISPLACED);
            }
            if (fault == 0) {
                moveTo(at + 1);
            }
        }

        private void moveTo(int i) {
            at = i;
            token = i >= 0 && i < tokens.size && i < tokens.kinds.length ? tokens.kinds[i] : Tokens.END;
        }

        private void refuse(int why) {
            if (fault == 0) {
                fault = why;
                place = at >= 0 && at < tokens.starts.length ? tokens.starts[at] : NONE;
            }
        }
    }

    /** Runs a recipe; an outcome is WENT_ON, ENDED, or else the FAILURE's number. */
    private static final class Runner {
        private static final int WENT_ON = 0;
        private static final int ENDED = -1;
        private static final int SICK_VAT = 1;
        private static final int NO_GRAIN = 2;
        private static final int NOT_LOOSE = 3;
        private static final int NOT_SICK = 4;
        private static final int OVERFED = 5;
        private static final int OF_FAIL = 100;

        private final Works works;
        private int limit;
        int result = NONE;
        int failure;
        int counted;
        int dipsDone;
        int grainsMoved;
        int hoursRested;

        Runner(Works works) {
            this.works = works;
        }

        int follow(Step first, Cloth cloth, int mostSteps) {
            limit = mostSteps;
            counted = 0;
            dipsDone = 0;
            grainsMoved = 0;
            hoursRested = 0;
            int outcome = doSteps(first, cloth, 0);
            failure = Math.max(0, outcome);
            if (outcome == ENDED) {
                result = 2;
            } else {
                result = outcome == WENT_ON ? 0 : 1;
            }
            return result;
        }

        private boolean mayCount() {
            if (counted >= limit) {
                return false;
            }
            counted++;
            return true;
        }

        /** The reader lets no block stand deeper than the guard. */
        private int doSteps(Step first, Cloth cloth, int depth) {
            if (depth > MOST_BLOCKS) {
                return ENDED;
            }
            int outcome = WENT_ON;
            for (Step step = first; step != null && outcome == WENT_ON; step = step.next) {
                if (!mayCount()) {
                    outcome = ENDED;
                } else if (step.word < TIMES) {
                    outcome = doPlain(step, cloth);
                } else {
                    outcome = doBuilt(step, cloth, depth + 1);
                }
            }
            return outcome;
        }

        private int doPlain(Step step, Cloth cloth) {
            switch (step.word) {
                case DIP:
                    return doDip(works.vatAt(step.vat), cloth, step.number);
                case AIR:
                    return doAir(cloth);
                case WASH:
                    works.washOut(cloth);
                    return WENT_ON;
                case REST:
                    return doRest(step.number);
                case FEED:
                    return works.vatAt(step.vat).takeFood(step.number) ? WENT_ON : OVERFED;
                case LIME:
                    return doLime(works.vatAt(step.vat));
                default:
                    return OF_FAIL + step.number;
            }
        }

        private int doBuilt(Step step, Cloth cloth, int depth) {
            switch (step.word) {
                case TIMES:
                    return doTimes(step, cloth, depth);
                case UNTIL:
                    return doUntil(step, cloth, depth);
                case IF:
                    return doSteps(holds(step, cloth) ? step.block : step.other, cloth, depth);
                case TRY:
                    return doTry(step, cloth, depth);
                default:
                    return doWithLast(step, cloth, depth);
            }
        }

        private int doDip(Vat vat, Cloth cloth, int m) {
            if (vat.state == SICK) {
                return SICK_VAT;
            }
            int moved = vat.givesTo(cloth, m);
            if (moved < 1) {
                return NO_GRAIN;
            }
            works.dipInto(vat, cloth, m, moved);
            grainsMoved += moved;
            dipsDone++;
            return WENT_ON;
        }

        private int doAir(Cloth cloth) {
            if (cloth.loose < 1) {
                return NOT_LOOSE;
            }
            works.airOut(cloth);
            return WENT_ON;
        }

        private int doRest(int n) {
            for (int i = 0; i < n; i++) {
                if (!mayCount()) {
                    return ENDED;
                }
                works.passHour();
                hoursRested++;
            }
            return WENT_ON;
        }

        private int doLime(Vat vat) {
            if (vat.state != SICK) {
                return NOT_SICK;
            }
            vat.takeLime();
            return WENT_ON;
        }

        private int doTimes(Step step, Cloth cloth, int depth) {
            int outcome = WENT_ON;
            for (int round = 0; round < step.number && outcome == WENT_ON; round++) {
                outcome = mayCount() ? doSteps(step.block, cloth, depth) : ENDED;
            }
            return outcome;
        }

        /** Each time it asks counts one, so that the limit bounds the rounds. */
        private int doUntil(Step step, Cloth cloth, int depth) {
            int outcome = WENT_ON;
            for (int asked = 0; asked <= limit && outcome == WENT_ON; asked++) {
                if (!mayCount()) {
                    return ENDED;
                }
                if (cloth.shade() >= step.number) {
                    return WENT_ON;
                }
                outcome = doSteps(step.block, cloth, depth);
            }
            return outcome;
        }

        private int doTry(Step step, Cloth cloth, int depth) {
            int outcome = doSteps(step.block, cloth, depth);
            if (outcome == WENT_ON || outcome == ENDED) {
                return outcome;
            }
            return doSteps(step.other, cloth, depth);
        }

        private int doWithLast(Step step, Cloth cloth, int depth) {
            int outcome = doSteps(step.block, cloth, depth);
            if (outcome == ENDED) {
                return ENDED;
            }
            int outcomeOfLast = doSteps(step.other, cloth, depth);
            return outcomeOfLast == WENT_ON ? outcome : outcomeOfLast;
        }

        private boolean holds(Step step, Cloth cloth) {
            int seen = lookAt(step, cloth);
            return step.below ? seen < step.number : seen == step.number;
        }

        private int lookAt(Step step, Cloth cloth) {
            switch (step.look) {
                case SHADE:
                    return cloth.shade();
                case LOOSE:
                    return cloth.loose;
                case GRAINS:
                    return works.vatAt(step.vat).grains;
                case FOOD:
                    return works.vatAt(step.vat).food;
                default:
                    return works.hours % HOURS_A_DAY;
            }
        }
    }

    /** Tries rows of dips on copies of the vats and of the cloth, in the order in which the first one counts. */
    private static final class Planner {
        private final Works works;
        private final Vat[] trialVats = new Vat[VATS];
        private final Cloth trialCloth = new Cloth(0, 1);
        private int low;
        private int high;
        int kept;
        final int[] keptVats = new int[MOST_PLANNED];
        final int[] keptMinutes = new int[MOST_PLANNED];
        final int[] keptShades = new int[MOST_PLANNED];

        Planner(Works works) {
            this.works = works;
            for (int i = 0; i < trialVats.length; i++) {
                trialVats[i] = new Vat(i);
            }
        }

        int fewest(Cloth cloth, int lowest, int highest, int most) {
            low = lowest;
            high = highest;
            for (int i = 0; i < trialVats.length; i++) {
                trialVats[i].copyFrom(works.vatAt(i));
            }
            trialCloth.copyFrom(cloth);
            for (int wanted = 0; wanted <= most && wanted <= MOST_PLANNED; wanted++) {
                if (reaches(0, wanted)) {
                    kept = wanted;
                    return wanted;
                }
            }
            kept = 0;
            return NONE;
        }

        private boolean reaches(int placed, int wanted) {
            if (placed >= wanted || placed >= MOST_PLANNED) {
                return trialCloth.loose == 0 && trialCloth.shade() >= low && trialCloth.shade() <= high;
            }
            for (int i = 0; i < trialVats.length; i++) {
                for (int m = 1; m <= 8; m *= 2) {
                    if (reachesBy(trialVats[i], m, placed, wanted)) {
                        return true;
                    }
                }
            }
            return false;
        }

        /** No dip makes a shade less, so that behind one above the span no row is looked for. */
        private boolean reachesBy(Vat vat, int m, int placed, int wanted) {
            int moved = vat.givesTo(trialCloth, m);
            if (moved < 1 || placed < 0 || placed >= MOST_PLANNED) {
                return false;
            }
            int grains = vat.grains;
            int food = vat.food;
            int minutes = vat.minutes;
            int state = vat.state;
            int loose = trialCloth.loose;
            int fast = trialCloth.fast;
            vat.soak(trialCloth, m, moved);
            trialCloth.loseByAir();
            keptVats[placed] = vat.number;
            keptMinutes[placed] = m;
            keptShades[placed] = trialCloth.shade();
            boolean found = keptShades[placed] <= high && reaches(placed + 1, wanted);
            vat.grains = grains;
            vat.food = food;
            vat.minutes = minutes;
            vat.state = state;
            trialCloth.loose = loose;
            trialCloth.fast = fast;
            return found;
        }
    }
}
