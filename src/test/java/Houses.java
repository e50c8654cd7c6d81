import java.nio.charset.StandardCharsets;

/** What many tests do to a house before they look at it. */
final class Houses {
    static final int SOUND = 0;
    static final int TIRED = 1;
    static final int SICK = 2;

    private Houses() {
    }

    /** A new house in hour 1 whose VATS 0 to 5 have so many grains (none: SICK as at first), and 495 FOOD, SOUND. */
    static VatHouse sound(int... grains) {
        VatHouse house = tired(grains);
        house.hours(1);
        return house;
    }

    /** A new house in hour 0 whose VATS have so many grains, and 500 FOOD, TIRED. */
    static VatHouse tired(int... grains) {
        VatHouse house = new VatHouse();
        for (int vat = 0; vat < grains.length; vat++) {
            if (grains[vat] > 0) {
                house.charge(vat, grains[vat]);
                house.feed(vat, 1000);
                house.lime(vat);
            }
        }
        return house;
    }

    /** A new house in hour 1 whose six VATS are SOUND, with 495 FOOD and without grains. */
    static VatHouse ready() {
        VatHouse house = new VatHouse();
        for (int vat = 0; vat < 6; vat++) {
            house.feed(vat, 1000);
            house.lime(vat);
        }
        house.hours(1);
        return house;
    }

    /** A new house whose VAT 0 is in that STATE, with so much FOOD (0 to 495) and without grains. */
    static VatHouse withFood(int state, int food) {
        VatHouse house = new VatHouse();
        if (state == SICK) {
            feedIfAny(house, food);
            return house;
        }
        house.feed(0, 1);
        house.lime(0);
        if (state == SOUND) {
            house.feed(0, 6);
            house.hours(1);
            house.lime(0);
        }
        feedIfAny(house, food);
        return house;
    }

    private static void feedIfAny(VatHouse house, int food) {
        if (food > 0) {
            house.feed(0, food);
        }
    }

    /** So many grains come on a CLOTH from a SOUND VAT by a minute's dip; what the VAT wants for it is put in ahead. */
    static void dye(VatHouse house, int cloth, int vat, int grains) {
        int wanted = grains * (100 + house.about(cloth, 0)) - house.vat(vat, 0);
        if (wanted > 0) {
            house.charge(vat, wanted);
        }
        house.dip(cloth, vat, 1);
    }

    /** Dyes and airs, so that so many grains more are FAST. */
    static void fasten(VatHouse house, int cloth, int vat, int grains) {
        int loose = 0;
        while (loose - loose / 8 < grains) {
            loose++;
        }
        dye(house, cloth, vat, loose);
        house.treat(cloth, 0);
    }

    /** The text comes on the tape, with blanks behind it up to whole twenties. */
    static void write(VatHouse house, String text) {
        byte[] bytes = text.getBytes(StandardCharsets.ISO_8859_1);
        for (int at = 0; at < bytes.length; at += 20) {
            house.put(four(bytes, at), four(bytes, at + 4), four(bytes, at + 8), four(bytes, at + 12),
                four(bytes, at + 16));
        }
    }

    static int read(VatHouse house, int recipe, String text) {
        write(house, text);
        return house.recipe(recipe, text.length());
    }

    /** Reads the text as RECIPE 0 and runs it on CLOTH 0. */
    static int runText(VatHouse house, String text, int limit) {
        read(house, 0, text);
        return house.run(0, 0, limit);
    }

    /** All that vat(), about() and count() tell, in a row; it takes 42 calls, and 8 for each CLOTH. */
    static int[] seen(VatHouse house) {
        int cloths = house.count(2);
        int[] seen = new int[36 + 8 * cloths + 6];
        for (int i = 0; i < 36; i++) {
            seen[i] = house.vat(i / 6, i % 6);
        }
        for (int i = 0; i < 8 * cloths; i++) {
            seen[36 + i] = house.about(i / 8, i % 8);
        }
        for (int what = 0; what < 6; what++) {
            seen[36 + 8 * cloths + what] = house.count(what);
        }
        return seen;
    }

    private static int four(byte[] bytes, int at) {
        int number = 0;
        for (int i = at; i < at + 4; i++) {
            number = number << 8 | (i < bytes.length ? bytes[i] & 255 : 32);
        }
        return number;
    }
}
