import java.util.NoSuchElementException;
import java.util.Random;

/**
 * Many runs of calls with all kinds of inputs: no call throws what the document does not name for it, no grain is
 * lost or found, and what has bounds stays within them. No house has more calls than the 512 that are promised.
 */
public final class WildCallsTest {
    private static final int RUNS = 3000;
    /** A house that is looked at takes 42 calls more, and 8 for each of at most 30 CLOTHS. */
    private static final int CALLS = 512 - 42 - 8 * 30;
    private static final int[] EDGES = {Integer.MIN_VALUE, -1, 0, 1, 20, 21, 30, 50, 1000, 1001, 1000000,
        Integer.MAX_VALUE};
    private static final String[] PARTS = {"dip 0 1;", "dip 1 8;", "air;", "wash;", "rest 2;", "feed 1 400;", "lime 1;",
        "fail 3;", "times 3{", "until 9{", "if food 1<50{", "if grains 0=7{", "try{", "do{", "}", "}else{", "}last{",
        "else{", "9", "zz", "%"};

    private final Checks checks = new Checks();
    private Random random;
    private VatHouse house;
    private int calls;

    public static void main(String[] args) {
        WildCallsTest test = new WildCallsTest();
        for (int seed = 0; seed < RUNS; seed++) {
            test.oneRun(seed);
        }
        test.checks.end();
    }

    private void oneRun(int seed) {
        random = new Random(seed);
        house = Houses.sound(10000, 500, 90000);
        house.cloth(1 + random.nextInt(50));
        calls = 11;
        int most = 20 + random.nextInt(CALLS - 40);
        while (calls < most) {
            int call = random.nextInt(21);
            calls++;
            try {
                any(call);
            } catch (NoSuchElementException thrown) {
                if (call == 3 || call == 4 || call == 7 || call == 8) {
                    checks.tell("seed " + seed + ", call " + call + " threw " + thrown);
                }
            } catch (IllegalArgumentException thrown) {
                if (thrown.getClass() != IllegalArgumentException.class || !mayBeIllegal(call)) {
                    checks.tell("seed " + seed + ", call " + call + " threw " + thrown);
                }
            }
        }
        staysWhole(seed);
    }

    private static boolean mayBeIllegal(int call) {
        return call == 1 || call == 3 || call == 5 || call == 6 || call == 8 || call == 12 || call == 17 || call == 18;
    }

    private int any(int call) {
        switch (call) {
            case 0: return house.charge(small(), number());
            case 1: return house.feed(small(), number());
            case 2: return house.lime(small());
            case 3: return house.hours(random.nextInt(9) == 0 ? number() : random.nextInt(4));
            case 4: return house.cloth(number());
            case 5: return house.dip(small(), small(), 1 + random.nextInt(21));
            case 6: return house.treat(small(), random.nextInt(20) == 0 ? 2 : random.nextInt(2));
            case 7: return house.put(number(), number(), number(), number(), number());
            case 8: return house.recipe(number(), number());
            case 9: return house.fault(small());
            case 10: return house.run(small(), small(), number());
            case 11: return house.ran(small());
            case 12: return house.plan(small(), small(), number(), small());
            case 13: return house.planned(small(), small());
            case 14: return house.vat(small(), small());
            case 15: return house.about(small(), small());
            case 16: return house.count(small());
            case 17: return house.faded(small(), number(), small());
            case 18: return house.matching(small(), number());
            default: return wildText();
        }
    }

    private int wildText() {
        house.recipe(7, 0);
        StringBuilder text = new StringBuilder();
        int parts = random.nextInt(12);
        int open = 0;
        for (int i = 0; i < parts; i++) {
            String part = PARTS[random.nextInt(random.nextInt(3) == 0 ? PARTS.length : 14)];
            text.append(part);
            open += part.endsWith("{") ? 1 : 0;
        }
        for (int i = 0; i < open; i++) {
            text.append(random.nextBoolean() ? "}" : random.nextBoolean() ? "}else{}" : "}last{air;}");
        }
        Houses.read(house, random.nextInt(3), text.toString());
        calls += (text.length() + 19) / 20 + 2;
        return house.run(random.nextInt(3), 0, 1 + random.nextInt(300));
    }

    private int small() {
        return random.nextInt(12) == 0 ? number() : random.nextInt(3);
    }

    private int number() {
        return random.nextBoolean() ? EDGES[random.nextInt(EDGES.length)] : random.nextInt(100);
    }

    private void staysWhole(int seed) {
        int[] seen = Houses.seen(house);
        int cloths = (seen.length - 42) / 8;
        int grains = seen[seen.length - 5];
        boolean bounded = cloths <= 30;
        for (int at = 0; at < 36; at += 6) {
            grains += seen[at];
            bounded &= seen[at] >= 0 && seen[at] <= 1000000 && seen[at + 1] >= 0 && seen[at + 1] <= 1000;
            bounded &= seen[at + 2] >= 0 && seen[at + 3] >= 0 && seen[at + 3] <= 2;
        }
        for (int at = 36; at < 36 + 8 * cloths; at += 8) {
            int held = seen[at + 1] + seen[at + 2];
            grains += held;
            bounded &= held <= 200 * seen[at] && seen[at + 1] >= 0 && seen[at + 2] >= 0;
            bounded &= seen[at + 3] == seen[at + 2] / seen[at];
        }
        checks.due("seed " + seed + ", grains in all", grains, seen[seen.length - 3]);
        if (!bounded) {
            checks.tell("seed " + seed + ", out of bounds");
        }
    }
}
