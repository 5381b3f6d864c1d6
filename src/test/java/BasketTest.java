/** Promises 1 to 6: a new object, put, takeOut, setCustomer, items, sum. */
public final class BasketTest {
    public static void main(String[] args) {
        newObject();
        put();
        putLimits();
        takeOut();
        setCustomer();
        itemsAndSum();
        Check.end();
    }

    private static void newObject() {
        BasketOffers x = new BasketOffers();
        Check.due("items() of a new till", x.items(), 0);
        Check.due("sum() of a new till", x.sum(), 0);
        Check.due("offers() of a new till", x.offers(), 0);
        Check.due("bestDiscount() of a new till", x.bestDiscount(), 0);
        Check.due("bestByTrying() of a new till", x.bestByTrying(), 0);
        Check.due("toPay() of a new till", x.toPay(), 0);
        Check.due("usesInAll() of a new till", x.usesInAll(), 0);
        Check.due("turnover() of a new till", x.turnover(), 0L);
        Check.due("setCustomer(0) of a new till", x.setCustomer(0), 0);
        BasketOffers other = new BasketOffers();
        x.put(1, 10);
        Check.due("items() of another till", other.items(), 0);
    }

    private static void put() {
        BasketOffers x = new BasketOffers();
        Check.due("put(0, 1)", x.put(0, 1), 0);
        Check.due("put(9, 9999)", x.put(9, 9999), 1);
        Check.due("put(4, 100)", x.put(4, 100), 2);
        Check.due("items()", x.items(), 3);
        Check.due("sum()", x.sum(), 10100);
        int[][] wrong = {{-1, 5}, {10, 5}, {5, 0}, {5, -1}, {5, 10000}, {Integer.MIN_VALUE, 1}, {1, Integer.MAX_VALUE}};
        for (int[] w : wrong) {
            Check.refuses(BasketTest::two, "put(" + w[0] + ", " + w[1] + ")", IllegalArgumentException.class,
                    till -> till.put(w[0], w[1]));
        }
    }

    private static void putLimits() {
        Check.refuses(BasketTest::full, "put(1, 1) into a full basket", IllegalStateException.class, x -> x.put(1, 1));
        Check.refuses(BasketTest::full, "put(10, 1) into a full basket", IllegalArgumentException.class,
                x -> x.put(10, 1));
        Check.refuses(BasketTest::allPut, "put(1, 1) after 60", IllegalStateException.class, x -> x.put(1, 1));
        Check.refuses(BasketTest::allPut, "put(1, 0) after 60", IllegalArgumentException.class, x -> x.put(1, 0));
        BasketOffers x = full();
        x.takeOut(3);
        Check.due("put(1, 1) after takeOut", x.put(1, 1), 7);
        Check.due("items()", x.items(), 7);
    }

    private static void takeOut() {
        BasketOffers x = full();
        Check.due("takeOut(0)", x.takeOut(0), 6);
        Check.due("takeOut(6)", x.takeOut(6), 5);
        Check.due("takeOut(3)", x.takeOut(3), 4);
        Check.due("sum()", x.sum(), 2 + 3 + 5 + 6);
        Check.due("netPrice(4)", x.netPrice(4), 5);
        Check.due("netPrice(5)", x.netPrice(5), 6);
        Check.due("takeOut(3) again", Check.answer(x, t -> t.takeOut(3)), "throws.NoSuchElementException");
        x.sell();
        Check.due("takeOut(4) when sold", Check.answer(x, t -> t.takeOut(4)), "throws.NoSuchElementException");
        for (int item : new int[] {-1, 2, 60, Integer.MAX_VALUE, Integer.MIN_VALUE}) {
            Check.refuses(BasketTest::two, "takeOut(" + item + ")", java.util.NoSuchElementException.class,
                    till -> till.takeOut(item));
        }
    }

    private static void setCustomer() {
        BasketOffers x = two();
        Check.due("setCustomer(3)", x.setCustomer(3), 0);
        Check.due("setCustomer(1)", x.setCustomer(1), 3);
        Check.due("setCustomer(1)", x.setCustomer(1), 1);
        Check.due("items()", x.items(), 2);
        x.sell();
        Check.due("soldTo(0)", x.soldTo(0), 1);
        Check.due("setCustomer(0) after a sale", x.setCustomer(0), 1);
        for (int customer : new int[] {-1, 4, Integer.MAX_VALUE, Integer.MIN_VALUE}) {
            Check.refuses(BasketTest::two, "setCustomer(" + customer + ")", IllegalArgumentException.class,
                    till -> till.setCustomer(customer));
        }
    }

    private static void itemsAndSum() {
        BasketOffers x = new BasketOffers();
        for (int i = 0; i < 7; i++) {
            x.put(i, 9999);
            Check.due("items()", x.items(), i + 1);
            Check.due("sum()", x.sum(), 9999 * (i + 1));
        }
        x.addPercentage(0, 50, 1, -1);
        Check.due("sum() with an offer", x.sum(), 69993);
        x.sell();
        Check.due("items() after sell", x.items(), 0);
        Check.due("sum() after sell", x.sum(), 0);
    }

    private static BasketOffers two() {
        BasketOffers x = new BasketOffers();
        x.put(1, 300);
        x.put(2, 200);
        x.addPercentage(1, 10, 2, 0);
        return x;
    }

    private static BasketOffers full() {
        BasketOffers x = new BasketOffers();
        for (int i = 0; i < 7; i++) {
            x.put(i, i + 1);
        }
        return x;
    }

    private static BasketOffers allPut() {
        BasketOffers x = new BasketOffers();
        for (int i = 0; i < 60; i++) {
            Check.due("put", x.put(1, 5), i);
            if (i % 2 == 0) {
                x.takeOut(i);
            } else if (x.items() == 5) {
                x.sell();
            }
        }
        Check.due("items() after 60", x.items(), 0);
        x.addPercentage(1, 20, 1, -1);
        return x;
    }
}
