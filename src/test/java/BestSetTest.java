import java.util.NoSuchElementException;

/** Promises 13 to 19: bestDiscount, bestByTrying, offerOf, uses, reason, netPrice, toPay. */
public final class BestSetTest {
    public static void main(String[] args) {
        percentage();
        freeItem();
        bundle();
        bundleOfAlikeKinds();
        threshold();
        thresholdsOfAGroup();
        thresholdsInAllOrders();
        thresholdAgainstItems();
        askedFirst();
        limits();
        groups();
        tiesOfOffers();
        tiesOfItems();
        useBeforeNone();
        reasons();
        spreadOfUses();
        spreadOfThresholds();
        moreThanAll();
        manyItems();
        wrongInputs();
        Check.end();
    }

    private static void percentage() {
        BasketOffers x = Tills.basket(1, 199, 2, 500, 1, 1);
        x.addPercentage(1, 50, 9, -1);
        Tills.best(x, 99, "0 -1 0", "100 500 1");
        Check.due("uses(0)", x.uses(0), 2);
        Check.due("toPay()", x.toPay(), 601);
        Check.due("reason(0)", x.reason(0), 'u');
    }

    private static void freeItem() {
        BasketOffers x = Tills.basket(4, 300, 4, 100, 5, 50, 4, 200, 4, 250);
        x.addFreeItem(4, 3, 9, -1);
        Tills.best(x, 200, "0 -1 -1 0 0", "219 100 50 147 184");
        BasketOffers y = Tills.basket(4, 10, 4, 10);
        y.addFreeItem(4, 3, 1, -1);
        Tills.best(y, 0, "-1 -1", "10 10");
        BasketOffers z = Tills.basket(4, 9, 4, 9, 4, 9, 4, 9, 4, 9);
        z.addFreeItem(4, 5, 1, -1);
        Tills.best(z, 9, "0 0 0 0 0", "7 7 7 7 8");
    }

    private static void bundle() {
        BasketOffers x = Tills.basket(1, 100, 2, 200, 3, 300, 1, 150);
        x.addBundle(3, 1, -1, 400, 2, -1);
        Tills.best(x, 50, "-1 -1 0 0", "100 200 266 134");
        x.addBundle(1, 2, 3, 450, 2, -1);
        Tills.best(x, 200, "-1 1 1 1", "100 138 208 104");
        BasketOffers y = Tills.basket(1, 100, 2, 200);
        y.addBundle(1, 2, -1, 300, 2, -1);
        Tills.best(y, 0, "-1 -1", "100 200");
        y.addBundle(1, 2, -1, 299, 2, -1);
        Tills.best(y, 1, "1 1", "99 200");
    }

    private static void bundleOfAlikeKinds() {
        BasketOffers x = Tills.basket(1, 100, 2, 100, 1, 100);
        x.addBundle(1, 1, -1, 150, 2, -1);
        Tills.best(x, 50, "0 -1 0", "75 100 75");
        BasketOffers y = Tills.basket(1, 100, 2, 100, 2, 100);
        y.addBundle(1, 1, 2, 1, 2, -1);
        Tills.best(y, 0, "-1 -1 -1", "100 100 100");
        y.addBundle(2, 1, 2, 1, 2, -1);
        Tills.best(y, 299, "1 1 1", "0 0 1");
        BasketOffers z = Tills.basket(5, 10, 5, 20, 5, 30);
        z.addBundle(5, 5, 5, 30, 1, -1);
        Tills.best(z, 30, "0 0 0", "5 10 15");
    }

    private static void threshold() {
        BasketOffers x = Tills.basket(1, 60, 2, 40);
        x.addThreshold(101, 30, 9, -1);
        Tills.best(x, 0, "-1 -1", "60 40");
        x.addThreshold(100, 20, 9, -1);
        Tills.best(x, 20, "-1 -1", "48 32");
        Check.due("uses(0)", x.uses(0), 0);
        Check.due("uses(1)", x.uses(1), 1);
        x.addThreshold(1, 7, 9, -1);
        Tills.best(x, 27, "-1 -1", "43 30");
        Check.due("uses(2)", x.uses(2), 1);
    }

    private static void thresholdsOfAGroup() {
        BasketOffers x = Tills.basket(1, 100);
        x.addThreshold(50, 10, 1, 2);
        x.addThreshold(60, 12, 1, 2);
        x.addThreshold(70, 12, 1, 2);
        x.addThreshold(101, 40, 1, 2);
        x.addThreshold(1, 1, 1, 3);
        Tills.best(x, 13, "-1", "87");
        Check.due("reasons", Tills.reasons(x), "gugcu");
    }

    private static void thresholdsInAllOrders() {
        for (int order = 0; order < 256; order++) {
            BasketOffers x = Tills.basket(1, 1000);
            int[] amounts = {order & 3, order >> 2 & 3, order >> 4 & 3, order >> 6 & 3};
            int used = 0;
            for (int offer = 0; offer < 4; offer++) {
                x.addThreshold(1, 10 + amounts[offer], 1, 1);
                used = amounts[offer] > amounts[used] ? offer : used;
            }
            Check.due("bestDiscount() of order " + order, x.bestDiscount(), 10 + amounts[used]);
            for (int offer = 0; offer < 4; offer++) {
                Check.due("uses(" + offer + ") of order " + order, x.uses(offer), offer == used ? 1 : 0);
            }
        }
    }

    private static void askedFirst() {
        Check.due("bestDiscount() first", asked().bestDiscount(), 30);
        Check.due("bestByTrying() first", asked().bestByTrying(), 30);
        Check.due("offerOf(1) first", asked().offerOf(1), 1);
        Check.due("uses(1) first", asked().uses(1), 1);
        Check.due("reason(0) first", asked().reason(0), 'b');
        Check.due("netPrice(1) first", asked().netPrice(1), 70);
        Check.due("toPay() first", asked().toPay(), 70);
        Check.due("sell() first", asked().sell(), 70);
    }

    /** A till at which all was asked, and then the basket and the offers were changed. */
    private static BasketOffers asked() {
        BasketOffers x = Tills.basket(1, 200);
        x.addPercentage(1, 20, 2, -1);
        LaterCalls.ASKED.on(x);
        x.put(1, 100);
        x.addPercentage(1, 30, 2, -1);
        x.takeOut(0);
        return x;
    }

    private static void thresholdAgainstItems() {
        BasketOffers x = Tills.basket(1, 100, 2, 100);
        x.addPercentage(1, 20, 1, -1);
        x.addThreshold(200, 19, 1, -1);
        Tills.best(x, 20, "0 -1", "80 100");
        Check.due("reasons", Tills.reasons(x), "ub");
        BasketOffers y = Tills.basket(1, 100, 2, 100);
        y.addPercentage(1, 20, 1, -1);
        y.addThreshold(200, 20, 1, -1);
        Tills.best(y, 20, "0 -1", "80 100");
        BasketOffers z = Tills.basket(1, 100, 2, 100);
        z.addPercentage(1, 20, 1, -1);
        z.addThreshold(200, 21, 1, -1);
        Tills.best(z, 21, "-1 -1", "89 90");
        Check.due("reasons", Tills.reasons(z), "bu");
        BasketOffers both = Tills.basket(1, 100, 2, 100);
        both.addPercentage(1, 20, 1, -1);
        both.addThreshold(180, 21, 1, -1);
        Tills.best(both, 41, "0 -1", "70 89");
    }

    private static void limits() {
        BasketOffers x = Tills.basket(1, 100, 1, 300, 1, 200);
        x.addPercentage(1, 10, 2, -1);
        Tills.best(x, 50, "-1 0 0", "100 270 180");
        x.sell();
        x.put(1, 100);
        Tills.best(x, 3, 0, -1, 100);
        Check.due("reason(0)", x.reason(0), 'l');
        x.setCustomer(1);
        Tills.best(x, 3, 10, 0, 90);
        Check.due("reason(0)", x.reason(0), 'u');
    }

    private static void groups() {
        BasketOffers x = Tills.basket(1, 100, 2, 100, 1, 50);
        x.addPercentage(1, 10, 9, 0);
        x.addPercentage(2, 14, 9, 0);
        x.addPercentage(2, 5, 9, -1);
        Tills.best(x, 20, "0 2 0", "90 95 45");
        Check.due("reasons", Tills.reasons(x), "ugu");
        BasketOffers y = Tills.basket(1, 100, 2, 100);
        y.addPercentage(1, 10, 9, 0);
        y.addThreshold(1, 11, 9, 0);
        Tills.best(y, 11, "-1 -1", "94 95");
        Check.due("reasons", Tills.reasons(y), "gu");
        BasketOffers z = Tills.basket(1, 100, 2, 100);
        z.addPercentage(1, 10, 9, 3);
        z.addPercentage(2, 10, 9, 2);
        Tills.best(z, 20, "0 1", "90 90");
    }

    private static void tiesOfOffers() {
        BasketOffers x = Tills.basket(1, 100, 1, 100);
        x.addPercentage(1, 10, 1, -1);
        x.addPercentage(1, 10, 9, -1);
        x.addPercentage(1, 10, 9, -1);
        Tills.best(x, 20, "0 1", "90 90");
        BasketOffers y = Tills.basket(1, 100, 1, 100);
        y.addFreeItem(1, 2, 9, -1);
        y.addPercentage(1, 50, 9, -1);
        Tills.best(y, 100, "0 0", "50 50");
        BasketOffers z = Tills.basket(1, 100, 1, 100);
        z.addPercentage(1, 50, 9, -1);
        z.addFreeItem(1, 2, 9, -1);
        Tills.best(z, 100, "0 0", "50 50");
        BasketOffers g = Tills.basket(1, 100, 2, 100);
        g.addPercentage(2, 10, 9, 1);
        g.addPercentage(1, 10, 9, 1);
        Tills.best(g, 10, "1 -1", "90 100");
    }

    private static void tiesOfItems() {
        BasketOffers x = Tills.basket(1, 100, 2, 70, 1, 100, 2, 70, 1, 100);
        x.addBundle(1, 2, -1, 100, 1, -1);
        Tills.best(x, 70, "0 0 -1 -1 -1", "58 42 100 70 100");
        BasketOffers y = Tills.basket(1, 100, 1, 100, 1, 100, 1, 100);
        y.addFreeItem(1, 2, 2, -1);
        Tills.best(y, 200, "0 0 0 0", "50 50 50 50");
        BasketOffers z = Tills.basket(1, 100, 1, 300, 1, 100, 1, 300);
        z.addFreeItem(1, 2, 2, -1);
        Tills.best(z, 400, "0 0 0 0", "50 150 50 150");
        Check.due("uses(0)", z.uses(0), 2);
    }

    private static void useBeforeNone() {
        BasketOffers x = Tills.basket(1, 1, 1, 1);
        x.addPercentage(1, 90, 1, -1);
        Tills.best(x, 0, "0 -1", "1 1");
        Check.due("uses(0)", x.uses(0), 1);
        BasketOffers y = Tills.basket(1, 1, 1, 100);
        y.addPercentage(1, 90, 1, -1);
        Tills.best(y, 90, "-1 0", "1 10");
        BasketOffers z = Tills.basket(1, 1, 2, 5);
        z.addPercentage(1, 90, 1, 0);
        z.addThreshold(1, 1, 1, 0);
        Tills.best(z, 1, "-1 -1", "0 5");
    }

    private static void reasons() {
        BasketOffers x = Tills.basket(1, 100, 2, 100);
        x.addPercentage(3, 10, 1, -1);
        x.addFreeItem(1, 2, 1, 0);
        x.addBundle(1, 2, -1, 200, 1, -1);
        x.addThreshold(201, 5, 1, 0);
        x.addPercentage(1, 5, 1, 0);
        x.addPercentage(1, 4, 1, -1);
        Check.due("reasons", Tills.reasons(x), "cccc" + "ub");
        x.sell();
        Check.due("reasons with an empty basket", Tills.reasons(x), "cccclc");
        x.setCustomer(2);
        Check.due("reasons of another customer", Tills.reasons(x), "cccccc");
        x.put(1, 20);
        Check.due("reasons with an item", Tills.reasons(x), "ccccub");
        x.setCustomer(0);
        Check.due("reasons with an item", Tills.reasons(x), "cccclu");
        BasketOffers y = Tills.basket(1, 100);
        y.addThreshold(100, 1, 1, -1);
        y.addPercentage(1, 2, 1, -1);
        Check.due("reasons", Tills.reasons(y), "bu");
        y.addThreshold(100, 1, 1, 3);
        y.addThreshold(90, 1, 1, 3);
        Check.due("reasons", Tills.reasons(y), "bugu");
    }

    private static void spreadOfUses() {
        BasketOffers x = Tills.basket(1, 10, 2, 10, 3, 10);
        x.addBundle(1, 2, 3, 10, 1, -1);
        Tills.best(x, 20, "0 0 0", "3 3 4");
        BasketOffers y = Tills.basket(1, 1, 2, 1000);
        y.addBundle(2, 1, -1, 1, 1, -1);
        Tills.best(y, 1000, "0 0", "0 1");
        BasketOffers z = Tills.basket(1, 1, 2, 100);
        z.addBundle(2, 1, -1, 50, 1, -1);
        Tills.best(z, 51, "0 0", "0 50");
    }

    private static void spreadOfThresholds() {
        BasketOffers x = Tills.basket(1, 1, 2, 100, 3, 50);
        x.addBundle(2, 1, -1, 50, 1, -1);
        x.addThreshold(100, 33, 1, -1);
        Tills.best(x, 84, "0 0 -1", "0 33 34");
        BasketOffers y = Tills.basket(1, 50, 2, 50, 3, 50);
        y.addThreshold(100, 10, 1, -1);
        y.addThreshold(100, 10, 1, -1);
        Tills.best(y, 20, "-1 -1 -1", "43 43 44");
    }

    private static void moreThanAll() {
        BasketOffers x = Tills.basket(1, 30, 2, 20);
        x.addThreshold(50, 49, 1, -1);
        Tills.best(x, 49, "-1 -1", "0 1");
        x.addThreshold(10, 1, 1, -1);
        Tills.best(x, 50, "-1 -1", "0 0");
        x.addThreshold(10, 9999, 1, -1);
        Tills.best(x, 10049, "-1 -1", "0 0");
        Check.due("toPay()", x.toPay(), 0);
        x.addPercentage(1, 10, 1, -1);
        Tills.best(x, 10049, "-1 -1", "0 0");
        BasketOffers dear = new BasketOffers();
        for (int i = 0; i < 7; i++) {
            dear.put(i, 9999);
        }
        for (int i = 0; i < 6; i++) {
            dear.addThreshold(9999, 9999, 1, -1);
        }
        Tills.best(dear, 59994, "-1 -1 -1 -1 -1 -1 -1", "1428 1428 1428 1428 1429 1429 1429");
    }

    private static void manyItems() {
        BasketOffers x = Tills.basket(1, 100, 1, 100, 1, 100, 1, 100, 1, 100);
        x.addFreeItem(1, 3, 9, -1);
        x.addFreeItem(1, 2, 9, -1);
        Check.due("bestByTrying() of 5 items", x.bestByTrying(), 200);
        Check.due("bestDiscount() of 5 items", x.bestDiscount(), 200);
        x.put(1, 100);
        Check.due("bestDiscount() of 6 items", x.bestDiscount(), 300);
        Check.due("bestByTrying() of 6 items", Check.answer(x, BasketOffers::bestByTrying),
                "throws.UnsupportedOperationException");
        x.takeOut(0);
        Check.due("bestByTrying() of 5 items again", x.bestByTrying(), 200);
        x.takeOut(1);
        x.takeOut(2);
        Check.due("bestByTrying() of 3 items", x.bestByTrying(), 100);
        Check.refuses(BestSetTest::six, "bestByTrying() of 6 items", UnsupportedOperationException.class,
                BasketOffers::bestByTrying);
    }

    private static void wrongInputs() {
        for (int item : new int[] {-1, 6, 60, Integer.MAX_VALUE, Integer.MIN_VALUE}) {
            Check.refuses(BestSetTest::six, "offerOf(" + item + ")", NoSuchElementException.class, x -> x.offerOf(item));
            Check.refuses(BestSetTest::six, "netPrice(" + item + ")", NoSuchElementException.class,
                    x -> x.netPrice(item));
        }
        for (int offer : new int[] {-1, 1, 6, Integer.MAX_VALUE, Integer.MIN_VALUE}) {
            Check.refuses(BestSetTest::six, "uses(" + offer + ")", IndexOutOfBoundsException.class, x -> x.uses(offer));
            Check.refuses(BestSetTest::six, "reason(" + offer + ")", IndexOutOfBoundsException.class,
                    x -> x.reason(offer));
        }
        Check.refuses(BestSetTest::sold, "offerOf(0) when sold", NoSuchElementException.class, x -> x.offerOf(0));
        Check.refuses(BestSetTest::sold, "netPrice(0) when sold", NoSuchElementException.class, x -> x.netPrice(0));
    }

    private static BasketOffers six() {
        BasketOffers x = Tills.basket(1, 10, 1, 20, 1, 30, 1, 40, 2, 50, 2, 60);
        x.addFreeItem(1, 2, 2, -1);
        return x;
    }

    private static BasketOffers sold() {
        BasketOffers x = six();
        x.sell();
        return x;
    }
}
