/** Promises 7 to 12: addPercentage, addFreeItem, addBundle, addThreshold, left, offers. */
public final class OffersTest {
    private static final Class<IllegalArgumentException> ARGUMENT = IllegalArgumentException.class;
    private static final Class<IllegalStateException> STATE = IllegalStateException.class;

    public static void main(String[] args) {
        numbers();
        addPercentage();
        addFreeItem();
        addBundle();
        addThreshold();
        noRoom();
        left();
        Check.end();
    }

    private static void numbers() {
        BasketOffers x = new BasketOffers();
        Check.due("addPercentage(0, 1, 1, -1)", x.addPercentage(0, 1, 1, -1), 0);
        Check.due("addPercentage(9, 90, 9, 3)", x.addPercentage(9, 90, 9, 3), 1);
        Check.due("addFreeItem(0, 2, 1, -1)", x.addFreeItem(0, 2, 1, -1), 2);
        Check.due("addFreeItem(9, 5, 9, 3)", x.addFreeItem(9, 5, 9, 3), 3);
        Check.due("offers()", x.offers(), 4);
        Check.due("addBundle(0, 9, -1, 1, 1, -1)", x.addBundle(0, 9, -1, 1, 1, -1), 4);
        Check.due("addBundle(9, 0, 9, 9999, 9, 3)", x.addBundle(9, 0, 9, 9999, 9, 3), 5);
        Check.due("offers()", x.offers(), 6);
        BasketOffers y = new BasketOffers();
        Check.due("addThreshold(1, 1, 1, -1)", y.addThreshold(1, 1, 1, -1), 0);
        Check.due("addThreshold(9999, 9999, 9, 3)", y.addThreshold(9999, 9999, 9, 3), 1);
        Check.due("offers()", y.offers(), 2);
    }

    private static void addPercentage() {
        int[][] wrong = {{-1, 5, 1, 0}, {10, 5, 1, 0}, {1, 0, 1, 0}, {1, 91, 1, 0}, {1, 5, 0, 0}, {1, 5, 10, 0},
            {1, 5, 1, -2}, {1, 5, 1, 4}};
        for (int[] w : wrong) {
            Check.refuses(OffersTest::three, "addPercentage" + java.util.Arrays.toString(w), ARGUMENT,
                    x -> x.addPercentage(w[0], w[1], w[2], w[3]));
        }
    }

    private static void addFreeItem() {
        int[][] wrong = {{-1, 2, 1, 0}, {10, 2, 1, 0}, {1, 1, 1, 0}, {1, 6, 1, 0}, {1, 2, 0, 0}, {1, 2, 10, 0},
            {1, 2, 1, -2}, {1, 2, 1, 4}};
        for (int[] w : wrong) {
            Check.refuses(OffersTest::three, "addFreeItem" + java.util.Arrays.toString(w), ARGUMENT,
                    x -> x.addFreeItem(w[0], w[1], w[2], w[3]));
        }
    }

    private static void addBundle() {
        int[][] wrong = {{-1, 2, 3, 5, 1, 0}, {10, 2, 3, 5, 1, 0}, {1, -1, 3, 5, 1, 0}, {1, 10, 3, 5, 1, 0},
            {1, 2, -2, 5, 1, 0}, {1, 2, 10, 5, 1, 0}, {1, 2, 3, 0, 1, 0}, {1, 2, 3, 10000, 1, 0},
            {1, 2, 3, 5, 0, 0}, {1, 2, 3, 5, 10, 0}, {1, 2, 3, 5, 1, -2}, {1, 2, 3, 5, 1, 4}};
        for (int[] w : wrong) {
            Check.refuses(OffersTest::three, "addBundle" + java.util.Arrays.toString(w), ARGUMENT,
                    x -> x.addBundle(w[0], w[1], w[2], w[3], w[4], w[5]));
        }
    }

    private static void addThreshold() {
        int[][] wrong = {{0, 5, 1, 0}, {10000, 5, 1, 0}, {5, 0, 1, 0}, {5, 10000, 1, 0}, {5, 5, 0, 0}, {5, 5, 10, 0},
            {5, 5, 1, -2}, {5, 5, 1, 4}, {-5, 5, 1, 0}, {5, -5, 1, 0}};
        for (int[] w : wrong) {
            Check.refuses(OffersTest::three, "addThreshold" + java.util.Arrays.toString(w), ARGUMENT,
                    x -> x.addThreshold(w[0], w[1], w[2], w[3]));
        }
    }

    private static void noRoom() {
        Check.refuses(OffersTest::six, "addPercentage as a seventh", STATE, x -> x.addPercentage(1, 5, 1, 0));
        Check.refuses(OffersTest::six, "addFreeItem as a seventh", STATE, x -> x.addFreeItem(1, 2, 1, 0));
        Check.refuses(OffersTest::six, "addBundle as a seventh", STATE, x -> x.addBundle(1, 2, 3, 5, 1, 0));
        Check.refuses(OffersTest::six, "addThreshold as a seventh", STATE, x -> x.addThreshold(5, 5, 1, 0));
        Check.refuses(OffersTest::six, "a wrong addPercentage as a seventh", ARGUMENT,
                x -> x.addPercentage(1, 91, 1, 0));
        Check.refuses(OffersTest::six, "a wrong addFreeItem as a seventh", ARGUMENT, x -> x.addFreeItem(1, 2, 0, 0));
        Check.refuses(OffersTest::six, "a wrong addBundle as a seventh", ARGUMENT,
                x -> x.addBundle(1, 2, -2, 5, 1, 0));
        Check.refuses(OffersTest::six, "a wrong addThreshold as a seventh", ARGUMENT,
                x -> x.addThreshold(5, 5, 1, 4));
    }

    private static void left() {
        BasketOffers x = three();
        Check.due("left(0)", x.left(0), 2);
        Check.due("left(1)", x.left(1), 1);
        Check.due("left(2)", x.left(2), 9);
        x.sell();
        Check.due("left(0) after a sale", x.left(0), 1);
        Check.due("left(1) after a sale", x.left(1), 1);
        Check.due("left(2) after a sale", x.left(2), 8);
        x.setCustomer(3);
        Check.due("left(0) of another customer", x.left(0), 2);
        Check.due("left(2) of another customer", x.left(2), 9);
        x.setCustomer(0);
        x.giveBack(0);
        Check.due("left(0) after giveBack", x.left(0), 1);
        for (int offer : new int[] {-1, 3, 6, Integer.MAX_VALUE, Integer.MIN_VALUE}) {
            Check.refuses(OffersTest::three, "left(" + offer + ")", IndexOutOfBoundsException.class,
                    till -> till.left(offer));
        }
        Check.refuses(BasketOffers::new, "left(0) without offers", IndexOutOfBoundsException.class, till -> till.left(0));
        Check.refuses(OffersTest::six, "left(6) with six offers", IndexOutOfBoundsException.class, till -> till.left(6));
    }

    private static BasketOffers three() {
        BasketOffers x = new BasketOffers();
        x.addPercentage(1, 10, 2, 0);
        x.addFreeItem(2, 2, 1, -1);
        x.addThreshold(100, 5, 9, 1);
        x.put(1, 300);
        x.put(2, 200);
        return x;
    }

    private static BasketOffers six() {
        BasketOffers x = three();
        x.addBundle(1, 2, -1, 480, 1, -1);
        x.addBundle(1, 2, 3, 480, 1, -1);
        x.addThreshold(9999, 1, 1, -1);
        return x;
    }
}
