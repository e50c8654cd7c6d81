/** Promise 3. */
public final class FeedTest {
    public static void main(String[] args) {
        Checks checks = new Checks();
        VatHouse house = Houses.sound(1000);
        checks.due("food does not cure", house.feed(1, 1), Houses.SICK);
        checks.due("FOOD", house.vat(1, 1), 1);
        checks.due("feed(0, 505) up to 1000", house.feed(0, 505), Houses.SOUND);
        checks.due("FOOD at 1000", house.vat(0, 1), 1000);
        checks.due("feed(0, 1) above 1000", house.feed(0, 1), Houses.SICK);
        checks.due("FOOD stays 1000", house.vat(0, 1), 1000);
        checks.due("feed(2, 1000) at once", house.feed(2, 1000), Houses.SICK);
        checks.due("FOOD of it", house.vat(2, 1), 1000);
        VatHouse tired = Houses.tired(1000);
        checks.due("a TIRED one stays so", tired.feed(0, 500), Houses.TIRED);
        checks.illegal("feed(3, 0)", () -> house.feed(3, 0));
        checks.illegal("feed(3, -1)", () -> house.feed(3, -1));
        checks.illegal("feed(3, 1001)", () -> house.feed(3, 1001));
        checks.due("FOOD behind wrong feeds", house.vat(3, 1), 0);
        checks.noSuch("feed(-1, 1)", () -> house.feed(-1, 1));
        checks.noSuch("feed(6, 1)", () -> house.feed(6, 1));
        checks.noSuch("feed(6, 0)", () -> house.feed(6, 0));
        checks.end();
    }
}
