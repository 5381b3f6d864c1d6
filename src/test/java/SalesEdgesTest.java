import java.util.NoSuchElementException;
import java.util.function.Supplier;

/** The boundary cases of promises 20 to 26, and of what the document's terms say of sales. */
public final class SalesEdgesTest {
    private static final Class<NoSuchElementException> NO_ELEMENT = NoSuchElementException.class;
    private static final Class<IllegalStateException> STATE = IllegalStateException.class;
    private static final Class<ArithmeticException> ARITHMETIC = ArithmeticException.class;

    public static void main(String[] args) {
        sellOneToSeven();
        sellNothing();
        sellForNothing();
        sixtySales();
        sixtyItemsInFullBaskets();
        mostUses();
        giveBackAll();
        giveBackOnce();
        giveBackWhatWasNotSold();
        givenBackStaysOut();
        usesAreNotGivenBack();
        soldToEachCustomer();
        soldToWhatWasNotSold();
        usesCounted();
        turnovers();
        shareOfNothingSold();
        leastAndGreatestShare();
        sharesInFloat();
        meansInDouble();
        Check.end();
    }

    /** "When the basket is sold, its items are sold to the customer at the till ..., and the basket is empty." */
    private static void sellOneToSeven() {
        for (int items = 1; items <= 7; items++) {
            BasketOffers x = Tills.basketOf(items, 1, 100);
            x.addPercentage(1, 10, 9, -1);
            Check.due("sell() of " + items, x.sell(), 90 * items);
            Check.due("items() after " + items, x.items(), 0);
            Check.due("sum() after " + items, x.sum(), 0);
            Check.due("toPay() after " + items, x.toPay(), 0);
            Check.due("bestDiscount() after " + items, x.bestDiscount(), 0);
            Check.due("left(0) after " + items, x.left(0), 9 - items);
            Check.due("usesInAll() after " + items, x.usesInAll(), items);
            Check.due("turnover() after " + items, x.turnover(), 90L * items);
            Check.due("meanNetPrice() after " + items, x.meanNetPrice(), 90.0);
            for (int item = 0; item < items; item++) {
                Check.due("giveBack(" + item + ") of " + items, x.giveBack(item), 90);
            }
            Check.due("giveBack(" + items + ") of " + items, next(x, items), "throws.NoSuchElementException");
        }
    }

    private static Object next(BasketOffers x, int item) {
        return Check.answer(x, t -> t.giveBack(item));
    }

    /** sell throws IllegalStateException "if the basket is empty" */
    private static void sellNothing() {
        Check.refuses(BasketOffers::new, "sell() of a new till", STATE, BasketOffers::sell);
        Check.refuses(SalesEdgesTest::emptied, "sell() of an emptied basket", STATE, BasketOffers::sell);
        Check.refuses(SalesEdgesTest::sold, "sell() after a sale", STATE, BasketOffers::sell);
        Check.refuses(() -> sixty(60), "sell() after 60 sales", STATE, BasketOffers::sell);
        BasketOffers x = sold();
        x.giveBack(0);
        Check.due("sell() after giveBack", Check.answer(x, BasketOffers::sell), "throws.IllegalStateException");
        x.setCustomer(1);
        Check.due("sell() to another customer", Check.answer(x, BasketOffers::sell), "throws.IllegalStateException");
        x.put(1, 3);
        Check.due("sell() after put", x.sell(), 3);
    }

    private static BasketOffers emptied() {
        BasketOffers x = Tills.basket(1, 10);
        x.addPercentage(1, 10, 9, -1);
        x.addThreshold(1, 5, 9, -1);
        x.takeOut(0);
        return x;
    }

    /** Three items of kind 1 sold to customer 0 by a percentage and a threshold, for 150 of 200. */
    private static BasketOffers sold() {
        BasketOffers x = Tills.basket(1, 100, 1, 60, 1, 40);
        x.addPercentage(1, 20, 1, -1);
        x.addThreshold(180, 30, 9, -1);
        x.sell();
        return x;
    }

    /** Also a basket for which nothing is to be paid is sold, and counts. */
    private static void sellForNothing() {
        BasketOffers x = Tills.basket(1, 1, 1, 9999);
        x.addThreshold(1, 9999, 1, -1);
        x.addThreshold(1, 9999, 1, -1);
        Check.due("sell() for nothing", x.sell(), 0);
        Check.due("soldTo(1) for nothing", x.soldTo(1), 0);
        Check.due("usesInAll() for nothing", x.usesInAll(), 2);
        Check.due("turnover() for nothing", x.turnover(), 0L);
        Check.due("discountShare() for nothing", x.discountShare(), 1f);
        Check.due("meanNetPrice() for nothing", x.meanNetPrice(), 0.0);
        Check.due("giveBack(1) for nothing", x.giveBack(1), 0);
        Check.due("giveBack(1) again", next(x, 1), "throws.IllegalStateException");
        Check.due("turnover() then", x.turnover(), 0L);
    }

    /** The most sales: 60 baskets of one item. */
    private static void sixtySales() {
        BasketOffers x = sixty(60);
        Check.due("turnover() of 60 sales", x.turnover(), 599940L);
        Check.due("discountShare() of 60 sales", x.discountShare(), 0f);
        Check.due("meanNetPrice() of 60 sales", x.meanNetPrice(), 9999.0);
        Check.due("usesInAll() of 60 sales", x.usesInAll(), 0);
        for (int item = 0; item < 60; item++) {
            Check.due("soldTo(" + item + ") of 60 sales", x.soldTo(item), item % 4);
            Check.due("giveBack(" + item + ") of 60 sales", x.giveBack(item), 9999);
        }
        Check.due("turnover() when all are given back", x.turnover(), 0L);
        Check.due("meanNetPrice() when all are given back", x.meanNetPrice(), 9999.0);
        Check.refuses(() -> sixty(60), "put after 60 sales", STATE, t -> t.put(1, 1));
    }

    /** So many sales of one item of 9999, each to the next customer. */
    private static BasketOffers sixty(int sales) {
        BasketOffers x = new BasketOffers();
        for (int item = 0; item < sales; item++) {
            x.setCustomer(item % 4);
            x.put(item % 10, 9999);
            x.sell();
        }
        return x;
    }

    /** Eight full baskets and one of four items: 60 in all. */
    private static void sixtyItemsInFullBaskets() {
        BasketOffers x = new BasketOffers();
        x.addThreshold(9999, 9999, 9, -1);
        int paid = 0;
        for (int item = 0; item < 60; item++) {
            x.put(item % 10, 9999);
            if (item % 7 == 6 || item == 59) {
                Check.due("sell() at " + item, x.sell(), 9999 * (item % 7));
                paid += 9999 * (item % 7);
            }
        }
        Check.due("turnover() of nine baskets", x.turnover(), (long) paid);
        Check.due("turnover() of nine baskets", x.turnover(), 51L * 9999);
        Check.due("usesInAll() of nine baskets", x.usesInAll(), 9);
        Check.due("left(0) of nine baskets", x.left(0), 0);
        Check.due("discountShare() of nine baskets", x.discountShare(), 9f * 9999 / (60f * 9999));
        Check.due("meanNetPrice() of nine baskets", x.meanNetPrice(), 51.0 * 9999 / 60);
        Check.due("giveBack(58)", x.giveBack(58), 7499);
        Check.due("giveBack(59)", x.giveBack(59), 7500);
        Check.due("turnover() then", x.turnover(), 51L * 9999 - 14999);
    }

    /** Six offers used nine times by each of four customers: 216 uses, and none beyond. */
    private static void mostUses() {
        BasketOffers x = new BasketOffers();
        x.addPercentage(1, 1, 9, -1);
        for (int offer = 1; offer < 6; offer++) {
            x.addThreshold(1, 1, 9, -1);
        }
        for (int sale = 0; sale < 36; sale++) {
            x.setCustomer(sale % 4);
            x.put(1, 100);
            Check.due("left of sale " + sale, Tills.left(x), "999999".replace('9', (char) ('9' - sale / 4)));
            Check.due("sell() of sale " + sale, x.sell(), 94);
            Check.due("usesInAll() of sale " + sale, x.usesInAll(), 6 * (sale + 1));
        }
        for (int customer = 0; customer < 4; customer++) {
            x.setCustomer(customer);
            x.put(1, 100);
            Check.due("left of " + customer, Tills.left(x), "000000");
            Check.due("reasons of " + customer, Tills.reasons(x), "llllll");
            Check.due("sell() to " + customer, x.sell(), 100);
        }
        Check.due("usesInAll() with nothing left", x.usesInAll(), 216);
    }

    /** "An item that was sold can be given back once, for its net price" */
    private static void giveBackAll() {
        BasketOffers x = sold();
        Check.due("turnover() of three", x.turnover(), 150L);
        x.setCustomer(3);
        Check.due("giveBack(2)", x.giveBack(2), 34);
        Check.due("turnover() then", x.turnover(), 116L);
        Check.due("giveBack(0)", x.giveBack(0), 66);
        Check.due("turnover() then", x.turnover(), 50L);
        Check.due("giveBack(1)", x.giveBack(1), 50);
        Check.due("turnover() then", x.turnover(), 0L);
    }

    /** giveBack throws IllegalStateException "if it was given back" */
    private static void giveBackOnce() {
        for (int item : new int[] {0, 1, 2}) {
            Supplier<BasketOffers> made = () -> {
                BasketOffers x = sold();
                x.giveBack(item);
                return x;
            };
            Check.refuses(made, "giveBack(" + item + ") again", STATE, t -> t.giveBack(item));
        }
        Supplier<BasketOffers> last = () -> {
            BasketOffers x = sixty(60);
            x.giveBack(59);
            return x;
        };
        Check.refuses(last, "giveBack(59) again", STATE, t -> t.giveBack(59));
    }

    /** giveBack throws NoSuchElementException "if it was never sold" */
    private static void giveBackWhatWasNotSold() {
        for (int item : new int[] {-1, 3, 4, 5, 59, 60, 61, Integer.MIN_VALUE, Integer.MAX_VALUE}) {
            Check.refuses(SalesEdgesTest::soldAndMore, "giveBack(" + item + ")", NO_ELEMENT, t -> t.giveBack(item));
        }
        Check.refuses(() -> sixty(59), "giveBack(59) of 59 sales", NO_ELEMENT, t -> t.giveBack(59));
        Check.refuses(() -> sixty(60), "giveBack(60) of 60 sales", NO_ELEMENT, t -> t.giveBack(60));
    }

    /** Items 0 to 2 were sold and 1 was given back; 3 was taken out, and 4 is in the basket. */
    private static BasketOffers soldAndMore() {
        BasketOffers x = sold();
        x.giveBack(1);
        x.put(1, 70);
        x.put(1, 80);
        x.takeOut(3);
        return x;
    }

    private static void givenBackStaysOut() {
        BasketOffers x = sold();
        x.giveBack(1);
        Check.due("items() after giveBack", x.items(), 0);
        Check.due("sum() after giveBack", x.sum(), 0);
        Check.due("toPay() after giveBack", x.toPay(), 0);
        Check.due("takeOut(1) after giveBack", Check.answer(x, t -> t.takeOut(1)), "throws.NoSuchElementException");
        Check.due("netPrice(1) after giveBack", Check.answer(x, t -> t.netPrice(1)), "throws.NoSuchElementException");
        Check.due("soldTo(1) after giveBack", x.soldTo(1), 0);
        BasketOffers full = sold();
        for (int item = 0; item < 7; item++) {
            full.put(2, 10);
        }
        full.toPay();
        Check.due("giveBack(1) beside a full basket", full.giveBack(1), 50);
        Check.due("toPay() of the full basket", full.toPay(), 70);
    }

    /** "offers that were used are not given back" */
    private static void usesAreNotGivenBack() {
        BasketOffers x = sold();
        Check.due("left after the sale", Tills.left(x), "08");
        for (int item = 0; item < 3; item++) {
            x.giveBack(item);
        }
        Check.due("left when all are given back", Tills.left(x), "08");
        Check.due("usesInAll() when all are given back", x.usesInAll(), 2);
        x.put(1, 100);
        Check.due("reasons when all are given back", Tills.reasons(x), "lc");
    }

    private static void soldToEachCustomer() {
        BasketOffers x = new BasketOffers();
        int item = 0;
        for (int customer : new int[] {0, 3, 1, 2, 0}) {
            x.put(1, 1);
            x.put(1, 1);
            x.setCustomer(customer);
            x.sell();
            x.setCustomer((customer + 1) % 4);
            Check.due("soldTo(" + item + ")", x.soldTo(item), customer);
            Check.due("soldTo(" + (item + 1) + ")", x.soldTo(item + 1), customer);
            item += 2;
        }
        Check.due("soldTo(2) after others", x.soldTo(2), 3);
        x.giveBack(2);
        Check.due("soldTo(2) when given back", x.soldTo(2), 3);
    }

    /** soldTo throws NoSuchElementException "if it was never sold" */
    private static void soldToWhatWasNotSold() {
        for (int item : new int[] {-1, 3, 4, 5, 59, 60, 61, Integer.MIN_VALUE, Integer.MAX_VALUE}) {
            Check.refuses(SalesEdgesTest::soldAndMore, "soldTo(" + item + ")", NO_ELEMENT, t -> t.soldTo(item));
        }
        Check.refuses(() -> sixty(59), "soldTo(59) of 59 sales", NO_ELEMENT, t -> t.soldTo(59));
        Check.refuses(() -> sixty(60), "soldTo(60) of 60 sales", NO_ELEMENT, t -> t.soldTo(60));
    }

    /** "Returns how often offers were used in all sales." */
    private static void usesCounted() {
        BasketOffers x = Tills.basket(1, 100, 1, 100, 2, 10);
        x.addPercentage(1, 20, 9, -1);
        x.addThreshold(1, 5, 9, -1);
        x.addBundle(2, 2, -1, 1, 9, -1);
        x.toPay();
        Check.due("usesInAll() before a sale", x.usesInAll(), 0);
        x.sell();
        Check.due("usesInAll() of two percentages and a threshold", x.usesInAll(), 3);
        x.put(2, 10);
        x.put(2, 10);
        x.setCustomer(1);
        x.sell();
        Check.due("usesInAll() of a bundle and a threshold more", x.usesInAll(), 5);
    }

    /** "Returns what all customers have paid and not got back." */
    private static void turnovers() {
        BasketOffers x = Tills.basket(1, 9999);
        Check.due("turnover() before a sale", x.turnover(), 0L);
        x.sell();
        Check.due("turnover() after a sale", x.turnover(), 9999L);
        x.setCustomer(3);
        x.put(1, 1);
        Check.due("turnover() with an item in the basket", x.turnover(), 9999L);
        x.sell();
        Check.due("turnover() after another's sale", x.turnover(), 10000L);
        x.giveBack(0);
        Check.due("turnover() after giveBack", x.turnover(), 1L);
        x.giveBack(1);
        Check.due("turnover() after giveBack of all", x.turnover(), 0L);
    }

    /** discountShare and meanNetPrice throw ArithmeticException "if nothing was sold" */
    private static void shareOfNothingSold() {
        for (Supplier<BasketOffers> made : java.util.List.<Supplier<BasketOffers>>of(BasketOffers::new,
                SalesEdgesTest::emptied, () -> Tills.basketOf(7, 1, 9999))) {
            Check.refuses(made, "discountShare()", ARITHMETIC, BasketOffers::discountShare);
            Check.refuses(made, "meanNetPrice()", ARITHMETIC, BasketOffers::meanNetPrice);
        }
        BasketOffers x = Tills.basket(1, 1);
        x.sell();
        Check.due("discountShare() of one item", x.discountShare(), 0f);
        Check.due("meanNetPrice() of one item", x.meanNetPrice(), 1.0);
        x.giveBack(0);
        Check.due("discountShare() of one given back", x.discountShare(), 0f);
        Check.due("meanNetPrice() of one given back", x.meanNetPrice(), 1.0);
    }

    private static void leastAndGreatestShare() {
        BasketOffers x = Tills.basket(1, 9999);
        x.addThreshold(1, 9999, 1, -1);
        x.sell();
        Check.due("discountShare() of a free item", x.discountShare(), 1f);
        Check.due("meanNetPrice() of a free item", x.meanNetPrice(), 0.0);
        x.put(1, 9999);
        x.sell();
        Check.due("discountShare() of a free one of two", x.discountShare(), 0.5f);
        Check.due("meanNetPrice() of a free one of two", x.meanNetPrice(), 4999.5);
        x.giveBack(0);
        x.giveBack(1);
        Check.due("discountShare() when given back", x.discountShare(), 0.5f);
        Check.due("meanNetPrice() when given back", x.meanNetPrice(), 4999.5);
    }

    /** "divided by the sum of their prices, both converted to float" */
    private static void sharesInFloat() {
        for (int price = 2; price <= 9999; price += 7) {
            BasketOffers x = Tills.basket(1, price);
            x.addBundle(1, 2, -1, price, 1, -1);
            x.put(2, 1);
            x.sell();
            Check.due("discountShare() of 1 in " + (price + 1), x.discountShare(), 1f / (float) (price + 1));
        }
        BasketOffers third = Tills.basket(1, 1, 1, 1, 1, 1);
        third.addThreshold(3, 1, 1, -1);
        third.sell();
        Check.due("discountShare() of a third", (double) third.discountShare(), (double) (1f / 3f));
        Check.due("meanNetPrice() of two thirds", third.meanNetPrice(), 2.0 / 3.0);
    }

    /** "divided by their number, both converted to double" */
    private static void meansInDouble() {
        BasketOffers x = new BasketOffers();
        int sum = 0;
        for (int item = 0; item < 60; item++) {
            int price = 9999 - item * 37;
            x.put(item % 10, price);
            if (item % 3 == 2) {
                x.sell();
            }
            sum += price;
            if (item % 3 == 2) {
                Check.due("meanNetPrice() of " + (item + 1), x.meanNetPrice(), (double) sum / (double) (item + 1));
                Check.due("turnover() of " + (item + 1), x.turnover(), (long) sum);
            }
        }
    }
}
