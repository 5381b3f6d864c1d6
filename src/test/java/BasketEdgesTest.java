import java.util.NoSuchElementException;

/** The boundary cases of promises 1 to 6, and of what the document's terms say of customers and items. */
public final class BasketEdgesTest {
    private static final Class<IllegalArgumentException> ARGUMENT = IllegalArgumentException.class;
    private static final Class<IllegalStateException> STATE = IllegalStateException.class;
    private static final Class<NoSuchElementException> NO_ELEMENT = NoSuchElementException.class;

    public static void main(String[] args) {
        newTillAnswers();
        newTillRefuses();
        firstCustomer();
        fourCustomers();
        basketStays();
        kindsAndPrices();
        kindsAndPricesOutOfRange();
        sevenItems();
        sixtyItems();
        sixtyItemsTakenOutAndSold();
        numbersInOrder();
        takeOutOfFullBasket();
        takeOutOfEmptyBasket();
        takeOutWhatIsNotThere();
        sums();
        lastCall();
        Check.end();
    }

    /** "Creates a till with an empty basket, without offers." */
    private static void newTillAnswers() {
        Check.due("items() of a new till", new BasketOffers().items(), 0);
        Check.due("sum() of a new till", new BasketOffers().sum(), 0);
        Check.due("offers() of a new till", new BasketOffers().offers(), 0);
        Check.due("bestDiscount() of a new till", new BasketOffers().bestDiscount(), 0);
        Check.due("bestByTrying() of a new till", new BasketOffers().bestByTrying(), 0);
        Check.due("toPay() of a new till", new BasketOffers().toPay(), 0);
        Check.due("usesInAll() of a new till", new BasketOffers().usesInAll(), 0);
        Check.due("turnover() of a new till", new BasketOffers().turnover(), 0L);
        Check.due("put(5, 5) of a new till", new BasketOffers().put(5, 5), 0);
        Check.due("addPercentage(5, 5, 5, -1) of a new till", new BasketOffers().addPercentage(5, 5, 5, -1), 0);
        Check.due("addFreeItem(5, 5, 5, -1) of a new till", new BasketOffers().addFreeItem(5, 5, 5, -1), 0);
        Check.due("addBundle(5, 5, 5, 5, 5, -1) of a new till", new BasketOffers().addBundle(5, 5, 5, 5, 5, -1), 0);
        Check.due("addThreshold(5, 5, 5, -1) of a new till", new BasketOffers().addThreshold(5, 5, 5, -1), 0);
    }

    private static void newTillRefuses() {
        Class<IndexOutOfBoundsException> index = IndexOutOfBoundsException.class;
        Class<ArithmeticException> arithmetic = ArithmeticException.class;
        Check.refuses(BasketOffers::new, "takeOut(0) of a new till", NO_ELEMENT, x -> x.takeOut(0));
        Check.refuses(BasketOffers::new, "left(0) of a new till", index, x -> x.left(0));
        Check.refuses(BasketOffers::new, "offerOf(0) of a new till", NO_ELEMENT, x -> x.offerOf(0));
        Check.refuses(BasketOffers::new, "uses(0) of a new till", index, x -> x.uses(0));
        Check.refuses(BasketOffers::new, "reason(0) of a new till", index, x -> x.reason(0));
        Check.refuses(BasketOffers::new, "netPrice(0) of a new till", NO_ELEMENT, x -> x.netPrice(0));
        Check.refuses(BasketOffers::new, "sell() of a new till", STATE, BasketOffers::sell);
        Check.refuses(BasketOffers::new, "giveBack(0) of a new till", NO_ELEMENT, x -> x.giveBack(0));
        Check.refuses(BasketOffers::new, "soldTo(0) of a new till", NO_ELEMENT, x -> x.soldTo(0));
        Check.refuses(BasketOffers::new, "discountShare() of a new till", arithmetic, BasketOffers::discountShare);
        Check.refuses(BasketOffers::new, "meanNetPrice() of a new till", arithmetic, BasketOffers::meanNetPrice);
    }

    /** "one of them is at the till, at first 0" */
    private static void firstCustomer() {
        for (int customer = 0; customer < 4; customer++) {
            Check.due("setCustomer(" + customer + ") of a new till", new BasketOffers().setCustomer(customer), 0);
        }
        BasketOffers x = Tills.basket(1, 10);
        x.sell();
        Check.due("soldTo(0) of the first customer", x.soldTo(0), 0);
    }

    /** "There are 4 customers, numbered from 0"; "Returns the customer before." */
    private static void fourCustomers() {
        BasketOffers x = new BasketOffers();
        int before = 0;
        for (int customer : new int[] {3, 3, 0, 0, 1, 2, 2, 1, 3, 0}) {
            Check.due("setCustomer(" + customer + ")", x.setCustomer(customer), before);
            before = customer;
        }
        for (int customer : new int[] {-1, 4, 5, Integer.MIN_VALUE, Integer.MAX_VALUE}) {
            for (int atTill : new int[] {0, 3}) {
                Check.refuses(() -> seven(atTill), "setCustomer(" + customer + ") with " + atTill, ARGUMENT,
                        t -> t.setCustomer(customer));
            }
        }
    }

    /** "Lets another customer come to the till; the basket stays." */
    private static void basketStays() {
        BasketOffers x = seven(0);
        for (int customer = 3; customer >= 0; customer--) {
            x.setCustomer(customer);
            Check.due("items() for " + customer, x.items(), 7);
            Check.due("sum() for " + customer, x.sum(), 28);
            Check.due("toPay() for " + customer, x.toPay(), 28);
            Check.due("netPrice(6) for " + customer, x.netPrice(6), 7);
        }
        BasketOffers empty = new BasketOffers();
        empty.setCustomer(1);
        Check.due("items() of an empty basket for 1", empty.items(), 0);
    }

    /** "a kind from 0 to 9, and a price from 1 to 9999" */
    private static void kindsAndPrices() {
        for (int kind = 0; kind <= 9; kind++) {
            for (int price : new int[] {1, 2, 9998, 9999}) {
                BasketOffers x = new BasketOffers();
                Check.due("put(" + kind + ", " + price + ")", x.put(kind, price), 0);
                Check.due("items()", x.items(), 1);
                Check.due("sum()", x.sum(), price);
                x.addPercentage(kind, 50, 9, -1);
                Check.due("netPrice(0) at half its price", x.netPrice(0), price - price / 2);
                Check.due("offerOf(0) of its kind " + kind, x.offerOf(0), 0);
                x.put((kind + 1) % 10, price);
                Check.due("offerOf(1) of another kind", x.offerOf(1), -1);
                Check.due("netPrice(1) of another kind", x.netPrice(1), price);
            }
        }
    }

    /** put throws IllegalArgumentException "if the kind or the price is out of range" */
    private static void kindsAndPricesOutOfRange() {
        int[][] wrong = {{-1, 1}, {-1, 9999}, {10, 1}, {10, 9999}, {0, 0}, {9, 0}, {0, 10000}, {9, 10000}, {0, -1},
            {-1, 0}, {10, 10000}, {Integer.MIN_VALUE, 1}, {Integer.MAX_VALUE, 1}, {0, Integer.MIN_VALUE},
            {0, Integer.MAX_VALUE}};
        for (int[] w : wrong) {
            String name = "put(" + w[0] + ", " + w[1] + ")";
            Check.refuses(BasketOffers::new, name, ARGUMENT, x -> x.put(w[0], w[1]));
            Check.refuses(() -> Tills.basketOf(6, 1, 50), name + " beside six", ARGUMENT, x -> x.put(w[0], w[1]));
            Check.refuses(() -> seven(0), name + " beside seven", ARGUMENT, x -> x.put(w[0], w[1]));
            Check.refuses(() -> sixty(0), name + " after sixty", ARGUMENT, x -> x.put(w[0], w[1]));
        }
    }

    /** "At most 7 items are in the basket at a time"; put throws "if there are 7 items in the basket" */
    private static void sevenItems() {
        BasketOffers x = new BasketOffers();
        for (int item = 0; item < 7; item++) {
            Check.due("put as item " + item, x.put(item, item + 1), item);
            Check.due("items()", x.items(), item + 1);
        }
        Check.due("put as an eighth", Check.answer(x, t -> t.put(0, 1)), "throws.IllegalStateException");
        x.takeOut(6);
        Check.due("put after takeOut", x.put(0, 1), 7);
        Check.due("put as an eighth again", Check.answer(x, t -> t.put(0, 1)), "throws.IllegalStateException");
        x.sell();
        for (int item = 8; item < 15; item++) {
            Check.due("put after a sale", x.put(9, 9999), item);
        }
        Check.due("put as an eighth after a sale", Check.answer(x, t -> t.put(0, 1)), "throws.IllegalStateException");
        Check.refuses(() -> seven(0), "put(0, 1) as an eighth", STATE, t -> t.put(0, 1));
        Check.refuses(() -> seven(3), "put(9, 9999) as an eighth", STATE, t -> t.put(9, 9999));
    }

    /** "at most 60 are put into baskets in all"; put throws if "there were 60 in all" */
    private static void sixtyItems() {
        for (int items = 0; items <= 7; items++) {
            int inBasket = items;
            BasketOffers x = sixty(items);
            Check.due("items() after sixty", x.items(), items);
            Check.refuses(() -> sixty(inBasket), "put as a 61st beside " + items, STATE, t -> t.put(1, 1));
        }
        BasketOffers x = sixty(7);
        for (int item = 53; item < 60; item++) {
            x.takeOut(item);
            Check.due("put as a 61st after takeOut", Check.answer(x, t -> t.put(1, 1)),
                    "throws.IllegalStateException");
        }
        BasketOffers y = sixty(7);
        y.sell();
        y.giveBack(59);
        Check.due("put as a 61st after giveBack", Check.answer(y, t -> t.put(1, 1)), "throws.IllegalStateException");
    }

    /** The 60 count all that were put, sold and taken out as well. */
    private static void sixtyItemsTakenOutAndSold() {
        BasketOffers taken = new BasketOffers();
        BasketOffers sold = new BasketOffers();
        for (int item = 0; item < 60; item++) {
            Check.due("put before takeOut", taken.put(1, 1), item);
            taken.takeOut(item);
            Check.due("put before a sale", sold.put(1, 1), item);
            sold.sell();
        }
        Check.due("put after 60 were taken out", Check.answer(taken, t -> t.put(1, 1)), "throws.IllegalStateException");
        Check.due("put after 60 were sold", Check.answer(sold, t -> t.put(1, 1)), "throws.IllegalStateException");
    }

    /** "an item has a number, given from 0 on in the order in which items came" */
    private static void numbersInOrder() {
        BasketOffers x = new BasketOffers();
        Check.answer(x, t -> t.put(10, 1));
        Check.answer(x, t -> t.put(1, 0));
        Check.due("put after refused ones", x.put(1, 1), 0);
        x.takeOut(0);
        Check.due("put after takeOut of the last one", x.put(1, 1), 1);
        Check.due("put", x.put(1, 1), 2);
        x.takeOut(1);
        Check.due("put after takeOut of an earlier one", x.put(1, 1), 3);
        x.sell();
        Check.due("put after a sale", x.put(1, 1), 4);
        x.giveBack(2);
        Check.due("put after giveBack", x.put(1, 1), 5);
        BasketOffers full = seven(0);
        Check.answer(full, t -> t.put(1, 1));
        full.takeOut(0);
        Check.due("put after one beside seven", full.put(1, 1), 7);
    }

    /** takeOut: the first, the last and one between, of a full basket whose kinds and prices all differ. */
    private static void takeOutOfFullBasket() {
        for (int item = 0; item < 7; item++) {
            BasketOffers x = seven(0);
            x.addPercentage(6, 90, 1, -1);
            x.addPercentage(0, 90, 1, -1);
            Check.due("takeOut(" + item + ")", x.takeOut(item), 6);
            Check.due("items() then", x.items(), 6);
            Check.due("sum() then", x.sum(), 28 - (item + 1));
            for (int other = 0; other < 7; other++) {
                int number = other;
                int net = other == 6 ? 1 : other + 1;
                int offer = other == 6 ? 0 : other == 0 ? 1 : -1;
                Check.due("netPrice(" + other + ") then", Check.answer(x, t -> t.netPrice(number)),
                        other == item ? "throws.NoSuchElementException" : (Object) net);
                Check.due("offerOf(" + other + ") then", Check.answer(x, t -> t.offerOf(number)),
                        other == item ? "throws.NoSuchElementException" : (Object) offer);
            }
        }
    }

    /** takeOut "Returns the number of items in the basket then.", down to 0, and not beyond */
    private static void takeOutOfEmptyBasket() {
        BasketOffers x = seven(0);
        for (int item = 6; item >= 0; item--) {
            Check.due("takeOut(" + item + ")", x.takeOut(item), item);
        }
        Check.due("items() of the emptied basket", x.items(), 0);
        Check.due("sum() of the emptied basket", x.sum(), 0);
        Check.due("toPay() of the emptied basket", x.toPay(), 0);
        Check.refuses(BasketEdgesTest::emptied, "takeOut(0) of an emptied basket", NO_ELEMENT, t -> t.takeOut(0));
        Check.refuses(BasketEdgesTest::emptied, "takeOut(1) of an emptied basket", NO_ELEMENT, t -> t.takeOut(1));
    }

    /** takeOut throws NoSuchElementException "if it is not in the basket" */
    private static void takeOutWhatIsNotThere() {
        for (int item : new int[] {-1, 7, 8, 59, 60, Integer.MIN_VALUE, Integer.MAX_VALUE}) {
            Check.refuses(() -> seven(0), "takeOut(" + item + ") of seven", NO_ELEMENT, x -> x.takeOut(item));
        }
        Check.refuses(BasketEdgesTest::used, "takeOut(0) when sold", NO_ELEMENT, x -> x.takeOut(0));
        Check.refuses(BasketEdgesTest::used, "takeOut(1) when given back", NO_ELEMENT, x -> x.takeOut(1));
        Check.refuses(BasketEdgesTest::used, "takeOut(2) when taken out", NO_ELEMENT, x -> x.takeOut(2));
        Check.refuses(BasketEdgesTest::used, "takeOut(4) before it came", NO_ELEMENT, x -> x.takeOut(4));
        Check.due("takeOut(3) in the basket", used().takeOut(3), 0);
    }

    /** "Returns the sum of all prices in the basket.": the least and the greatest one, whatever the offers are */
    private static void sums() {
        Check.due("sum() of the cheapest item", Tills.basketOf(1, 1, 1).sum(), 1);
        Check.due("sum() of seven of the cheapest", Tills.basketOf(7, 1, 1).sum(), 7);
        Check.due("sum() of the dearest item", Tills.basketOf(1, 1, 9999).sum(), 9999);
        BasketOffers x = Tills.basketOf(7, 1, 9999);
        Check.due("sum() of seven of the dearest", x.sum(), 69993);
        x.addThreshold(1, 9999, 1, -1);
        x.addPercentage(1, 90, 9, -1);
        x.toPay();
        Check.due("sum() beside offers", x.sum(), 69993);
        x.sell();
        Check.due("sum() after a sale", x.sum(), 0);
    }

    /** "An object is used for at most 512 calls": the 512th one is still answered */
    private static void lastCall() {
        BasketOffers x = Tills.basket(1, 100);
        x.addPercentage(1, 10, 9, -1);
        for (int call = 3; call < 512; call++) {
            if (call % 2 == 0) {
                x.setCustomer(call / 2 % 4);
            } else {
                x.bestDiscount();
            }
        }
        Check.due("sell() as the 512th call", x.sell(), 90);
    }

    /** A full basket of the kinds 0 to 6 and the prices 1 to 7. */
    private static BasketOffers seven(int customer) {
        BasketOffers x = Tills.basket(0, 1, 1, 2, 2, 3, 3, 4, 4, 5, 5, 6, 6, 7);
        x.setCustomer(customer);
        return x;
    }

    /** A till into which 60 items were put, so many of which are still in the basket. */
    private static BasketOffers sixty(int inBasket) {
        BasketOffers x = new BasketOffers();
        x.addPercentage(1, 20, 9, -1);
        for (int item = 0; item < 60; item++) {
            Check.due("put", x.put(1, 5), item);
            if (item < 60 - inBasket) {
                if (item % 5 < 4) {
                    x.takeOut(item);
                } else {
                    x.sell();
                }
            }
        }
        return x;
    }

    private static BasketOffers emptied() {
        BasketOffers x = Tills.basket(1, 10, 1, 10);
        x.takeOut(1);
        x.takeOut(0);
        return x;
    }

    /** Of four items 0 was sold, 1 was given back, 2 was taken out, and 3 is in the basket. */
    private static BasketOffers used() {
        BasketOffers x = Tills.basket(1, 10, 1, 20);
        x.sell();
        x.giveBack(1);
        x.put(1, 30);
        x.put(1, 40);
        x.takeOut(2);
        return x;
    }
}
