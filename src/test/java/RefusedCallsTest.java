import java.util.NoSuchElementException;
import java.util.function.Supplier;

/**
 * "A method that throws an exception changes nothing. If several exceptions apply, the one that is documented first is
 * thrown.": every kind of refused call on tills of which every part is in use, and what all later calls answer then.
 */
public final class RefusedCallsTest {
    private static final Class<IllegalArgumentException> ARGUMENT = IllegalArgumentException.class;
    private static final Class<IllegalStateException> STATE = IllegalStateException.class;
    private static final Class<NoSuchElementException> NO_ELEMENT = NoSuchElementException.class;
    private static final Class<IndexOutOfBoundsException> INDEX = IndexOutOfBoundsException.class;

    public static void main(String[] args) {
        puts();
        itemsNotInTheBasket();
        customers();
        offersAdded();
        offersAskedFor();
        trying();
        sales();
        nothingSold();
        manyRefusedCalls();
        Check.end();
    }

    /** The argument's exception comes first, whether the basket is full, 60 were put, or both. */
    private static void puts() {
        int[][] wrong = {{-1, 5}, {10, 5}, {5, 0}, {5, 10000}, {10, 10000}, {-1, 0}};
        for (int[] w : wrong) {
            String name = "put(" + w[0] + ", " + w[1] + ")";
            Check.refuses(() -> busy(6), name + " beside six", ARGUMENT, x -> x.put(w[0], w[1]));
            Check.refuses(() -> busy(7), name + " beside seven", ARGUMENT, x -> x.put(w[0], w[1]));
            Check.refuses(() -> spent(6), name + " after sixty", ARGUMENT, x -> x.put(w[0], w[1]));
            Check.refuses(() -> spent(7), name + " beside seven after sixty", ARGUMENT, x -> x.put(w[0], w[1]));
        }
        Check.refuses(() -> busy(7), "put(1, 1) beside seven", STATE, x -> x.put(1, 1));
        Check.refuses(() -> spent(6), "put(1, 1) after sixty", STATE, x -> x.put(1, 1));
        Check.refuses(() -> spent(7), "put(1, 1) beside seven after sixty", STATE, x -> x.put(1, 1));
        Check.due("put(1, 1) beside six", busy(6).put(1, 1), 12);
    }

    private static void itemsNotInTheBasket() {
        for (int item : new int[] {Integer.MIN_VALUE, -1, 0, 1, 3, 5, 13, 14, 59, 60, Integer.MAX_VALUE}) {
            Check.refuses(() -> busy(7), "takeOut(" + item + ")", NO_ELEMENT, x -> x.takeOut(item));
            Check.refuses(() -> busy(7), "offerOf(" + item + ")", NO_ELEMENT, x -> x.offerOf(item));
            Check.refuses(() -> busy(7), "netPrice(" + item + ")", NO_ELEMENT, x -> x.netPrice(item));
        }
        Check.due("takeOut(6)", busy(7).takeOut(6), 6);
        Check.due("takeOut(12)", busy(7).takeOut(12), 6);
    }

    private static void customers() {
        for (int customer : new int[] {Integer.MIN_VALUE, -1, 4, Integer.MAX_VALUE}) {
            Check.refuses(() -> busy(7), "setCustomer(" + customer + ")", ARGUMENT, x -> x.setCustomer(customer));
        }
        Check.due("setCustomer(3)", busy(7).setCustomer(3), 2);
    }

    /** The argument's exception comes first, also beside six offers. */
    private static void offersAdded() {
        Check.refuses(() -> busy(7), "addPercentage as a seventh", STATE, x -> x.addPercentage(1, 50, 9, -1));
        Check.refuses(() -> busy(7), "addFreeItem as a seventh", STATE, x -> x.addFreeItem(1, 2, 9, -1));
        Check.refuses(() -> busy(7), "addBundle as a seventh", STATE, x -> x.addBundle(1, 2, -1, 1, 9, -1));
        Check.refuses(() -> busy(7), "addThreshold as a seventh", STATE, x -> x.addThreshold(1, 1, 9, -1));
        Check.refuses(() -> busy(7), "a wrong addPercentage as a seventh", ARGUMENT,
                x -> x.addPercentage(1, 91, 9, -1));
        Check.refuses(() -> busy(7), "a wrong addFreeItem as a seventh", ARGUMENT, x -> x.addFreeItem(1, 2, 10, -1));
        Check.refuses(() -> busy(7), "a wrong addBundle as a seventh", ARGUMENT,
                x -> x.addBundle(1, -1, -1, 1, 9, -1));
        Check.refuses(() -> busy(7), "a wrong addThreshold as a seventh", ARGUMENT, x -> x.addThreshold(1, 1, 9, -2));
    }

    private static void offersAskedFor() {
        for (int offer : new int[] {Integer.MIN_VALUE, -1, 6, 7, Integer.MAX_VALUE}) {
            Check.refuses(() -> busy(7), "left(" + offer + ")", INDEX, x -> x.left(offer));
            Check.refuses(() -> busy(7), "uses(" + offer + ")", INDEX, x -> x.uses(offer));
            Check.refuses(() -> busy(7), "reason(" + offer + ")", INDEX, x -> x.reason(offer));
        }
    }

    private static void trying() {
        Check.refuses(() -> busy(6), "bestByTrying() of six", UnsupportedOperationException.class,
                BasketOffers::bestByTrying);
        Check.refuses(() -> busy(7), "bestByTrying() of seven", UnsupportedOperationException.class,
                BasketOffers::bestByTrying);
        BasketOffers x = busy(5);
        Check.due("bestByTrying() of five", x.bestByTrying(), x.bestDiscount());
    }

    /** giveBack: an item that was never sold can't have been given back, so that only one exception applies. */
    private static void sales() {
        Check.refuses(() -> busy(0), "sell() of an empty basket", STATE, BasketOffers::sell);
        for (int item : new int[] {Integer.MIN_VALUE, -1, 5, 6, 12, 13, 59, 60, Integer.MAX_VALUE}) {
            Check.refuses(() -> busy(7), "giveBack(" + item + ")", NO_ELEMENT, x -> x.giveBack(item));
            Check.refuses(() -> busy(7), "soldTo(" + item + ")", NO_ELEMENT, x -> x.soldTo(item));
        }
        Check.refuses(() -> busy(7), "giveBack(1) again", STATE, x -> x.giveBack(1));
        Check.refuses(() -> busy(0), "giveBack(1) again", STATE, x -> x.giveBack(1));
    }

    private static void nothingSold() {
        Supplier<BasketOffers> made = () -> {
            BasketOffers x = Tills.basket(1, 100, 2, 50);
            x.addPercentage(1, 50, 1, -1);
            x.takeOut(1);
            x.setCustomer(1);
            return x;
        };
        Check.refuses(made, "discountShare()", ArithmeticException.class, BasketOffers::discountShare);
        Check.refuses(made, "meanNetPrice()", ArithmeticException.class, BasketOffers::meanNetPrice);
    }

    /** Refused calls one after the other, each kind three times. */
    private static void manyRefusedCalls() {
        for (LaterCalls later : LaterCalls.values()) {
            for (int items : new int[] {0, 7}) {
                BasketOffers x = busy(items);
                for (int time = 0; time < 3; time++) {
                    refuseAll(x);
                }
                Check.due(later + " after many refused calls", later.on(x), later.on(busy(items)));
            }
        }
    }

    private static void refuseAll(BasketOffers x) {
        Check.Call[] calls = {t -> t.put(10, 1), t -> t.put(1, 10000), t -> t.takeOut(5), t -> t.setCustomer(4),
            t -> t.addPercentage(1, 0, 1, 0), t -> t.addPercentage(1, 1, 1, 0), t -> t.addFreeItem(1, 2, 1, 0),
            t -> t.addBundle(1, 2, 3, 1, 1, 0), t -> t.addThreshold(1, 1, 1, 0), t -> t.left(6), t -> t.uses(6),
            t -> t.reason(-1), t -> t.offerOf(0), t -> t.netPrice(1), t -> t.giveBack(5), t -> t.giveBack(1),
            t -> t.soldTo(5)};
        for (Check.Call call : calls) {
            String answer = Check.answer(x, call).toString();
            Check.due("that a call of many is refused", answer.startsWith("throws."), true);
        }
    }

    /**
     * Items 0 to 2 were sold to customer 0 and item 1 was given back, items 3 and 4 were sold to customer 2, item 5 was
     * taken out; so many items from 6 on are in the basket of customer 2, who stands at the till.
     */
    private static BasketOffers busy(int items) {
        BasketOffers x = Tills.basket(1, 100, 2, 100, 3, 100);
        x.addPercentage(1, 10, 2, 0);
        x.addFreeItem(2, 2, 1, 0);
        x.addBundle(1, 2, -1, 150, 3, 1);
        x.addThreshold(100, 5, 9, 2);
        x.addPercentage(3, 50, 9, 1);
        x.addThreshold(300, 9, 1, -1);
        x.sell();
        x.giveBack(1);
        x.setCustomer(2);
        x.put(1, 50);
        x.put(1, 60);
        x.sell();
        x.put(5, 5);
        x.takeOut(5);
        for (int item = 0; item < items; item++) {
            x.put(1 + item % 3, 80 - item);
        }
        return x;
    }

    /** The same, but so many items of the last of sixty are in the basket. */
    private static BasketOffers spent(int items) {
        BasketOffers x = busy(0);
        for (int item = 6; item < 60; item++) {
            x.put(1 + item % 3, 20 + item);
            if (item < 60 - items) {
                x.takeOut(item);
            }
        }
        return x;
    }
}
