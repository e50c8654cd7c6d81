import java.nio.charset.StandardCharsets;

/** What many tests do to a house before they look at it. */
final class Houses {
    static final int SOUND = 0;
    static final int TIRED = 1;
    static final int SICK = 2;

    private Houses() {
    }

    /** A new house in hour 1 whose VATS 0 to 5 have so many grains (none: SICK as at first), and 495 FOOD, SOUND. */
    static VatHouse sound(int... grains) {
        VatHouse house = tired(grains);
        house.hours(1);
        return house;
    }

    /** A new house in hour 0 whose VATS have so many grains, and 500 FOOD, TIRED. */
    static VatHouse tired(int... grains) {
        VatHouse house = new VatHouse();
        for (int vat = 0; vat < grains.length; vat++) {
            if (grains[vat] > 0) {
                house.charge(vat, grains[vat]);
                house.feed(vat, 1000);
                house.lime(vat);
            }
        }
        return house;
    }

    /** The text comes on the tape, with blanks behind it up to whole twenties. */
    static void write(VatHouse house, String text) {
        byte[] bytes = text.getBytes(StandardCharsets.ISO_8859_1);
        for (int at = 0; at < bytes.length; at += 20) {
            house.put(four(bytes, at), four(bytes, at + 4), four(bytes, at + 8), four(bytes, at + 12),
                four(bytes, at + 16));
        }
    }

    static int read(VatHouse house, int recipe, String text) {
        write(house, text);
        return house.recipe(recipe, text.length());
    }

    /** Reads the text as RECIPE 0 and runs it on CLOTH 0. */
    static int runText(VatHouse house, String text, int limit) {
        read(house, 0, text);
        return house.run(0, 0, limit);
    }

    private static int four(byte[] bytes, int at) {
        int number = 0;
        for (int i = at; i < at + 4; i++) {
            number = number << 8 | (i < bytes.length ? bytes[i] & 255 : 32);
        }
        return number;
    }
}
