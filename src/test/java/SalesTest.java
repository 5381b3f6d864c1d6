import java.util.NoSuchElementException;

/** Promises 20 to 26: sell, giveBack, soldTo, usesInAll, turnover, discountShare, meanNetPrice. */
public final class SalesTest {
    public static void main(String[] args) {
        sell();
        giveBack();
        soldTo();
        usesInAll();
        shares();
        allFree();
        nothingSold();
        Check.end();
    }

    private static void sell() {
        BasketOffers x = shop();
        Check.due("toPay()", x.toPay(), 270);
        Check.due("sell()", x.sell(), 270);
        Check.due("items()", x.items(), 0);
        Check.due("sum()", x.sum(), 0);
        Check.due("toPay()", x.toPay(), 0);
        Check.due("bestDiscount()", x.bestDiscount(), 0);
        Check.due("left(0)", x.left(0), 1);
        Check.due("left(1)", x.left(1), 0);
        Check.due("sell() again", Check.answer(x, BasketOffers::sell), "throws.IllegalStateException");
        Check.due("put(1, 100)", x.put(1, 100), 3);
        x.put(1, 100);
        Check.due("sell() with what is left", x.sell(), 190);
        x.put(1, 100);
        Check.due("sell() with nothing left", x.sell(), 100);
        x.setCustomer(1);
        x.put(1, 100);
        Check.due("sell() to another customer", x.sell(), 70);
        Check.refuses(BasketOffers::new, "sell() with an empty basket", IllegalStateException.class, BasketOffers::sell);
        Check.refuses(SalesTest::sold, "sell() after a sale", IllegalStateException.class, BasketOffers::sell);
    }

    private static void giveBack() {
        BasketOffers x = sold();
        Check.due("turnover()", x.turnover(), 270L);
        Check.due("giveBack(1)", x.giveBack(1), 111);
        Check.due("turnover()", x.turnover(), 159L);
        Check.due("giveBack(0)", x.giveBack(0), 83);
        Check.due("turnover()", x.turnover(), 76L);
        Check.due("giveBack(1) again", Check.answer(x, t -> t.giveBack(1)), "throws.IllegalStateException");
        Check.due("turnover()", x.turnover(), 76L);
        Check.due("left(0) after giveBack", x.left(0), 1);
        Check.due("left(1) after giveBack", x.left(1), 0);
        Check.due("usesInAll() after giveBack", x.usesInAll(), 2);
        Check.due("giveBack(2)", x.giveBack(2), 76);
        Check.due("turnover()", x.turnover(), 0L);
        Check.due("items()", x.items(), 0);
        for (int item : new int[] {-1, 3, 4, 59, 60, Integer.MAX_VALUE, Integer.MIN_VALUE}) {
            Check.refuses(SalesTest::withMore, "giveBack(" + item + ")", NoSuchElementException.class,
                    t -> t.giveBack(item));
        }
        Check.refuses(SalesTest::withMore, "giveBack(1)", IllegalStateException.class, t -> t.giveBack(1));
    }

    private static void soldTo() {
        BasketOffers x = sold();
        x.setCustomer(3);
        x.put(1, 5);
        x.sell();
        Check.due("soldTo(0)", x.soldTo(0), 0);
        Check.due("soldTo(2)", x.soldTo(2), 0);
        Check.due("soldTo(3)", x.soldTo(3), 3);
        x.giveBack(3);
        Check.due("soldTo(3) when given back", x.soldTo(3), 3);
        for (int item : new int[] {-1, 3, 4, 59, 60, Integer.MAX_VALUE, Integer.MIN_VALUE}) {
            Check.refuses(SalesTest::withMore, "soldTo(" + item + ")", NoSuchElementException.class,
                    t -> t.soldTo(item));
        }
    }

    private static void usesInAll() {
        BasketOffers x = shop();
        Check.due("usesInAll() before a sale", x.usesInAll(), 0);
        x.sell();
        Check.due("usesInAll()", x.usesInAll(), 2);
        x.setCustomer(1);
        x.put(1, 100);
        x.put(1, 100);
        Check.due("usesInAll() before a sale", x.usesInAll(), 2);
        x.sell();
        Check.due("usesInAll()", x.usesInAll(), 5);
        x.put(2, 100);
        x.sell();
        Check.due("usesInAll() after a sale without offers", x.usesInAll(), 5);
    }

    private static void shares() {
        BasketOffers x = sold();
        Check.due("discountShare()", x.discountShare(), 30f / 300f);
        Check.due("meanNetPrice()", x.meanNetPrice(), 90.0);
        x.giveBack(0);
        Check.due("discountShare() after giveBack", x.discountShare(), 30f / 300f);
        Check.due("meanNetPrice() after giveBack", x.meanNetPrice(), 90.0);
        x.put(5, 401);
        Check.due("discountShare() with items in the basket", x.discountShare(), 30f / 300f);
        x.sell();
        Check.due("discountShare()", x.discountShare(), 30f / 701f);
        Check.due("meanNetPrice()", x.meanNetPrice(), 671.0 / 4.0);
        x.put(5, 3);
        x.put(5, 3);
        x.sell();
        Check.due("discountShare()", x.discountShare(), 30f / 707f);
        Check.due("meanNetPrice()", x.meanNetPrice(), 677.0 / 6.0);
    }

    private static void allFree() {
        BasketOffers x = new BasketOffers();
        x.addThreshold(1, 9999, 9, -1);
        x.put(1, 7);
        x.put(1, 8);
        Check.due("sell()", x.sell(), 0);
        Check.due("discountShare()", x.discountShare(), 1f);
        Check.due("meanNetPrice()", x.meanNetPrice(), 0.0);
        Check.due("turnover()", x.turnover(), 0L);
        Check.due("giveBack(0)", x.giveBack(0), 0);
        Check.due("giveBack(0) again", Check.answer(x, t -> t.giveBack(0)), "throws.IllegalStateException");
    }

    private static void nothingSold() {
        Check.refuses(SalesTest::shop, "discountShare()", ArithmeticException.class, BasketOffers::discountShare);
        Check.refuses(SalesTest::shop, "meanNetPrice()", ArithmeticException.class, BasketOffers::meanNetPrice);
        BasketOffers x = shop();
        Check.due("turnover()", x.turnover(), 0L);
    }

    /** Three items for which 270 is to be paid, by a percentage of 10 and a threshold of 20. */
    private static BasketOffers shop() {
        BasketOffers x = new BasketOffers();
        x.put(1, 100);
        x.put(2, 119);
        x.put(3, 81);
        x.addPercentage(1, 10, 2, -1);
        x.addThreshold(90, 20, 1, -1);
        return x;
    }

    private static BasketOffers sold() {
        BasketOffers x = shop();
        x.sell();
        return x;
    }

    /** An item sold and given back, one taken out, and one in the basket. */
    private static BasketOffers withMore() {
        BasketOffers x = sold();
        x.giveBack(1);
        x.put(1, 100);
        x.put(1, 100);
        x.takeOut(3);
        return x;
    }
}
