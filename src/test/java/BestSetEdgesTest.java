import java.util.NoSuchElementException;
import java.util.function.Supplier;

/** The boundary cases of promises 13 to 19, and of what the document's terms say of sets of offers and of spreading. */
public final class BestSetEdgesTest {
    private static final int[] NUMBERS_OUTSIDE = {-1, -2, Integer.MIN_VALUE, 60, 61, Integer.MAX_VALUE};

    public static void main(String[] args) {
        emptyBasket();
        fullBasketWithoutOffers();
        fullBasketOfOneKind();
        fullBasketForEachOffer();
        mostWaysToUse();
        allSixOffersUsed();
        askingChangesNothing();
        tryingUpToFive();
        noItemTwice();
        leftForTheCustomer();
        lowestOfferFirst();
        firstItemsFirst();
        itemsComparedInOrder();
        greatestDiscountFirst();
        useBeforeNone();
        itemsAfterTakeOut();
        thresholdsTogether();
        usedBeforeUsedUp();
        usedUpBeforeAllElse();
        impossibleBeforeGroup();
        groupBeforeOthers();
        othersAreBetter();
        restOfAThreshold();
        restOfAUse();
        restPastFreeItems();
        moreThanIsLeft();
        dearestSpread();
        itemsThatAreThere();
        offersThatAreThere();
        Check.end();
    }

    // ---- the emptiest and the fullest

    private static void emptyBasket() {
        for (BasketOffers x : new BasketOffers[] {withAllOffers(), emptied(), soldOut()}) {
            Check.due("items() of an empty basket", x.items(), 0);
            Check.due("bestDiscount() of an empty basket", x.bestDiscount(), 0);
            Check.due("bestByTrying() of an empty basket", x.bestByTrying(), 0);
            Check.due("toPay() of an empty basket", x.toPay(), 0);
            Check.due("uses of an empty basket", Tills.uses(x), "000000");
            x.setCustomer(2);
            Check.due("reasons of an empty basket", Tills.reasons(x), "cccccc");
        }
    }

    private static BasketOffers withAllOffers() {
        BasketOffers x = new BasketOffers();
        x.addPercentage(1, 90, 9, -1);
        x.addFreeItem(1, 2, 9, 0);
        x.addBundle(1, 1, -1, 1, 9, 1);
        x.addBundle(1, 2, 3, 1, 9, 2);
        x.addThreshold(1, 1, 9, 3);
        x.addThreshold(1, 9999, 9, -1);
        return x;
    }

    private static BasketOffers emptied() {
        BasketOffers x = withAllOffers();
        x.put(1, 10);
        x.put(1, 20);
        x.toPay();
        x.takeOut(0);
        x.takeOut(1);
        return x;
    }

    private static BasketOffers soldOut() {
        BasketOffers x = withAllOffers();
        x.put(1, 10);
        x.put(1, 20);
        x.sell();
        return x;
    }

    /** offerOf: "or -1 if none uses it" */
    private static void fullBasketWithoutOffers() {
        BasketOffers x = Tills.basket(0, 1, 9, 9999, 1, 2, 1, 2, 5, 500, 5, 499, 2, 7);
        Tills.best(x, 0, "-1 -1 -1 -1 -1 -1 -1", "1 9999 2 2 500 499 7");
    }

    /** Seven items of a kind and six offers that can use all of them as often as can be. */
    private static void fullBasketOfOneKind() {
        BasketOffers x = Tills.basketOf(7, 9, 9999);
        for (int offer = 0; offer < 6; offer++) {
            x.addPercentage(9, 90, 9, -1);
        }
        Tills.best(x, 62993, "0 0 0 0 0 0 0", "1000 1000 1000 1000 1000 1000 1000");
        Check.due("uses of seven items", Tills.uses(x), "700000");
        Check.due("reasons of seven items", Tills.reasons(x), "ubbbbb");
        BasketOffers y = Tills.basketOf(7, 9, 9999);
        for (int offer = 0; offer < 6; offer++) {
            y.addBundle(9, 9, 9, 1, 9, -1);
        }
        Tills.best(y, 59992, "0 0 0 0 0 0 -1", "0 0 1 0 0 1 9999");
    }

    /** Six offers share a full basket of a kind, so that the last one is found as well. */
    private static void fullBasketForEachOffer() {
        int[] prices = {10, 20, 30, 40, 50, 60, 70};
        BasketOffers x = new BasketOffers();
        for (int price : prices) {
            x.put(1, price);
        }
        for (int offer = 0; offer < 5; offer++) {
            x.addBundle(2, 3, 4, 1, 9, -1);
        }
        x.addFreeItem(1, 3, 9, -1);
        Tills.best(x, 70, "-1 5 5 5 5 5 5", "10 15 23 32 36 43 51");
        Check.due("uses of six offers", Tills.uses(x), "000002");
    }

    /** Six offers that can each take any three of seven items: the last offer with the last items is the best. */
    private static void mostWaysToUse() {
        BasketOffers x = Tills.basket(1, 10, 1, 11, 1, 12, 1, 13, 1, 20, 1, 21, 1, 22);
        for (int offer = 0; offer < 6; offer++) {
            x.addBundle(1, 1, 1, 9 - offer, 1, 0);
        }
        Tills.best(x, 59, "-1 -1 -1 -1 5 5 5", "10 11 12 13 1 1 2");
        BasketOffers y = Tills.basket(1, 10, 1, 11, 1, 12, 1, 13, 1, 20, 1, 21, 1, 22);
        for (int offer = 0; offer < 6; offer++) {
            y.addFreeItem(1, 3, 9, -1);
        }
        Tills.best(y, 31, "-1 0 0 0 0 0 0", "10 7 8 10 13 14 16");
    }

    private static void allSixOffersUsed() {
        BasketOffers x = Tills.basket(0, 10, 1, 10, 2, 10, 3, 10, 4, 10, 5, 10, 6, 10);
        for (int kind = 5; kind >= 0; kind--) {
            x.addPercentage(kind, 10 * (kind + 1), 1, -1);
        }
        Tills.best(x, 21, "5 4 3 2 1 0 -1", "9 8 7 6 5 4 10");
        Check.due("uses of six", Tills.uses(x), "111111");
        BasketOffers y = Tills.basket(1, 100);
        for (int offer = 0; offer < 6; offer++) {
            y.addThreshold(100, 10, 1, -1);
        }
        Tills.best(y, 0, 60, -1, 40);
        Check.due("uses of six", Tills.uses(y), "111111");
        BasketOffers z = Tills.basket(1, 100, 1, 100);
        z.addThreshold(190, 7, 1, 3);
        z.addThreshold(190, 7, 1, 2);
        z.addThreshold(190, 7, 1, 1);
        z.addThreshold(190, 7, 1, 0);
        z.addThreshold(190, 7, 1, -1);
        z.addPercentage(1, 10, 1, -1);
        Tills.best(z, 45, "5 -1", "73 82");
        Check.due("uses of six", Tills.uses(z), "111111");
    }

    /** "items are put into the basket, ... and all other calls ask": they change nothing. */
    private static void askingChangesNothing() {
        for (LaterCalls later : LaterCalls.values()) {
            BasketOffers x = oneLeft();
            for (int time = 0; time < 3; time++) {
                x.items();
                x.sum();
                x.left(0);
                x.offers();
                x.bestDiscount();
                x.bestByTrying();
                x.offerOf(3);
                x.uses(0);
                x.reason(0);
                x.netPrice(3);
                x.toPay();
                x.soldTo(0);
                x.usesInAll();
                x.turnover();
                x.discountShare();
                x.meanNetPrice();
            }
            Check.due(later + " after all was asked", later.on(x), later.on(oneLeft()));
        }
    }

    /** bestByTrying throws UnsupportedOperationException "if there are more than 5 items in the basket" */
    private static void tryingUpToFive() {
        for (int items = 0; items <= 7; items++) {
            BasketOffers x = Tills.basketOf(items, 1, 100);
            x.addFreeItem(1, 2, 9, -1);
            x.addPercentage(1, 40, 9, -1);
            int discount = 100 * (items / 2) + 40 * (items % 2);
            Object due = items <= 5 ? (Object) discount : "throws.UnsupportedOperationException";
            Check.due("bestByTrying() of " + items, Check.answer(x, BasketOffers::bestByTrying), due);
            Check.due("bestDiscount() of " + items, x.bestDiscount(), discount);
            Check.due("bestByTrying() again of " + items, Check.answer(x, BasketOffers::bestByTrying), due);
        }
        for (int items : new int[] {6, 7}) {
            Check.refuses(() -> several(items), "bestByTrying() of " + items, UnsupportedOperationException.class,
                    BasketOffers::bestByTrying);
        }
        BasketOffers x = several(6);
        x.takeOut(0);
        Check.due("bestByTrying() of five after takeOut", x.bestByTrying(), 90);
        x.put(1, 70);
        Check.due("bestByTrying() of six after put", Check.answer(x, BasketOffers::bestByTrying),
                "throws.UnsupportedOperationException");
        x.sell();
        Check.due("bestByTrying() of none after a sale", x.bestByTrying(), 0);
    }

    /** Items of kind 1 for 10, 20, 30 and so on, of which two free ones can be had. */
    private static BasketOffers several(int items) {
        BasketOffers x = new BasketOffers();
        for (int item = 0; item < items; item++) {
            x.put(1, 10 * (item + 1));
        }
        x.addFreeItem(1, 2, 2, -1);
        x.addPercentage(1, 50, 1, -1);
        return x;
    }

    // ---- sets of offers

    /** "No item is used twice" */
    private static void noItemTwice() {
        BasketOffers one = Tills.basket(1, 100);
        one.addPercentage(1, 50, 9, -1);
        one.addPercentage(1, 49, 9, -1);
        Tills.best(one, 0, 50, 0, 50);
        Check.due("uses of one item", Tills.uses(one), "10");
        BasketOffers two = Tills.basket(1, 100, 2, 100);
        two.addPercentage(1, 59, 9, -1);
        two.addBundle(1, 2, -1, 140, 9, -1);
        Tills.best(two, 60, "1 1", "70 70");
        BasketOffers three = Tills.basket(1, 100, 1, 100, 1, 100);
        three.addFreeItem(1, 2, 9, -1);
        Tills.best(three, 100, "0 0 -1", "50 50 100");
    }

    /** "no offer is used more often than the customer at the till has left" */
    private static void leftForTheCustomer() {
        for (int limit = 1; limit <= 9; limit++) {
            BasketOffers x = Tills.basketOf(7, 1, 100);
            x.addPercentage(1, 10, limit, -1);
            Check.due("uses(0) with the limit " + limit, x.uses(0), Math.min(limit, 7));
            Check.due("bestDiscount() with the limit " + limit, x.bestDiscount(), 10 * Math.min(limit, 7));
            x.sell();
            for (int item = 0; item < 5; item++) {
                x.put(1, 100);
            }
            Check.due("uses(0) left of the limit " + limit, x.uses(0), Math.max(limit - 7, 0));
            Check.due("bestByTrying() left of the limit " + limit, x.bestByTrying(), 10 * Math.max(limit - 7, 0));
            x.setCustomer(1);
            Check.due("uses(0) of another with the limit " + limit, x.uses(0), Math.min(limit, 5));
        }
    }

    /** "the best set has the use with the lowest number of an offer" */
    private static void lowestOfferFirst() {
        BasketOffers x = Tills.basket(1, 100, 1, 100, 1, 100);
        x.addPercentage(1, 20, 1, -1);
        x.addPercentage(1, 20, 1, -1);
        x.addPercentage(1, 20, 1, -1);
        Tills.best(x, 60, "0 1 2", "80 80 80");
        BasketOffers y = Tills.basket(1, 100, 2, 100, 1, 100, 3, 100);
        y.addBundle(1, 3, -1, 150, 1, 0);
        y.addBundle(1, 2, -1, 150, 1, 0);
        Tills.best(y, 50, "0 -1 -1 0", "75 100 100 75");
        BasketOffers z = Tills.basket(2, 100, 1, 100);
        z.addPercentage(1, 30, 1, 2);
        z.addPercentage(2, 30, 1, 2);
        Tills.best(z, 30, "1 -1", "70 100");
    }

    /** "and then with the items that come first" */
    private static void firstItemsFirst() {
        BasketOffers x = Tills.basketOf(7, 1, 10);
        x.addFreeItem(1, 5, 9, -1);
        Tills.best(x, 10, "0 0 0 0 0 -1 -1", "8 8 8 8 8 10 10");
        BasketOffers y = Tills.basket(1, 10, 1, 5, 1, 10, 1, 10);
        y.addFreeItem(1, 3, 9, -1);
        Tills.best(y, 10, "0 -1 0 0", "6 5 7 7");
        BasketOffers z = Tills.basketOf(6, 1, 100);
        z.addFreeItem(1, 2, 2, -1);
        Tills.best(z, 200, "0 0 0 0 -1 -1", "50 50 50 50 100 100");
    }

    /**
     * The items of the best uses are 0, 1, 4 and 0, 2, 3: "compared one after the other in ascending order". Items 0, 1
     * and 2 have a smaller discount; 0, 3 and 4 have a greater one, but leave too little for the threshold.
     */
    private static void itemsComparedInOrder() {
        BasketOffers x = Tills.basket(1, 100, 2, 100, 3, 100, 2, 110, 3, 110);
        x.addBundle(1, 2, 3, 250, 1, -1);
        x.addThreshold(460, 20, 1, -1);
        Check.due("bestDiscount()", x.bestDiscount(), 80);
        Check.due("bestByTrying()", x.bestByTrying(), 80);
        int[] offers = {0, 0, -1, -1, 0};
        for (int item = 0; item < 5; item++) {
            Check.due("offerOf(" + item + ")", x.offerOf(item), offers[item]);
        }
    }

    /** Only uses "with which the greatest discount can still be had" */
    private static void greatestDiscountFirst() {
        BasketOffers x = Tills.basket(1, 100, 1, 101);
        x.addPercentage(1, 50, 1, 0);
        x.addPercentage(1, 49, 9, 0);
        Tills.best(x, 98, "1 1", "51 52");
        BasketOffers y = Tills.basket(1, 100, 1, 300, 1, 200);
        y.addPercentage(1, 10, 1, -1);
        Tills.best(y, 30, "-1 0 -1", "100 270 200");
        BasketOffers z = Tills.basket(1, 100, 2, 100, 3, 100);
        z.addBundle(1, 2, -1, 170, 1, -1);
        z.addBundle(2, 3, -1, 169, 1, -1);
        Tills.best(z, 31, "-1 1 1", "100 84 85");
    }

    /** "only if there is no such use, it is in none": a use without a discount comes before none */
    private static void useBeforeNone() {
        BasketOffers x = Tills.basket(1, 1, 1, 1, 2, 100);
        x.addPercentage(1, 90, 1, 3);
        Tills.best(x, 0, "0 -1 -1", "1 1 100");
        x.addPercentage(2, 1, 1, 3);
        Tills.best(x, 1, "-1 -1 1", "1 1 99");
        BasketOffers y = Tills.basket(1, 100);
        y.addThreshold(1, 10, 1, 0);
        y.addPercentage(1, 10, 1, 0);
        Tills.best(y, 0, 10, 1, 90);
        Check.due("reasons", Tills.reasons(y), "gu");
        BasketOffers z = Tills.basket(1, 100);
        z.addThreshold(91, 10, 1, -1);
        z.addPercentage(1, 10, 1, -1);
        Tills.best(z, 0, 10, 1, 90);
        Check.due("reasons", Tills.reasons(z), "bu");
    }

    /** Items that moved up in the basket keep their kinds, prices and order. */
    private static void itemsAfterTakeOut() {
        BasketOffers x = Tills.basket(9, 1, 1, 100, 8, 2, 2, 200, 7, 3, 1, 100, 3, 300);
        x.addBundle(1, 2, -1, 250, 1, -1);
        x.addPercentage(3, 50, 1, -1);
        x.takeOut(0);
        x.takeOut(2);
        x.takeOut(4);
        Check.due("bestDiscount() then", x.bestDiscount(), 200);
        Check.due("bestByTrying() then", x.bestByTrying(), 200);
        int[][] due = {{1, 0, 83}, {3, 0, 167}, {5, -1, 100}, {6, 1, 150}};
        for (int[] d : due) {
            Check.due("offerOf(" + d[0] + ") then", x.offerOf(d[0]), d[1]);
            Check.due("netPrice(" + d[0] + ") then", x.netPrice(d[0]), d[2]);
        }
        Check.due("toPay() then", x.toPay(), 500);
    }

    /** "the ones with the greatest discounts that can be used together; of several offers of a group ... the lowest" */
    private static void thresholdsTogether() {
        BasketOffers x = Tills.basket(1, 100);
        x.addThreshold(1, 5, 1, 0);
        x.addThreshold(100, 6, 1, 0);
        x.addThreshold(101, 7, 1, 0);
        x.addThreshold(100, 6, 1, 0);
        x.addThreshold(2, 4, 1, 3);
        x.addThreshold(3, 4, 1, 3);
        Tills.best(x, 0, 10, -1, 90);
        Check.due("uses of groups 0 and 3", Tills.uses(x), "010010");
        x.sell();
        x.put(1, 100);
        Tills.best(x, 1, 10, -1, 90);
        Check.due("uses when the first are used up", Tills.uses(x), "000101");
        x.sell();
        x.put(1, 100);
        Tills.best(x, 2, 5, -1, 95);
        Check.due("uses when the next are used up", Tills.uses(x), "100000");
        BasketOffers none = Tills.basket(1, 100);
        none.addThreshold(1, 5, 1, -1);
        none.addThreshold(1, 5, 1, -1);
        Tills.best(none, 0, 10, -1, 90);
    }

    // ---- reason: the first one that applies

    /** 'u' also if the customer cannot use it any more after this set */
    private static void usedBeforeUsedUp() {
        BasketOffers x = Tills.basket(1, 100);
        x.addPercentage(1, 50, 1, 0);
        x.addThreshold(50, 1, 1, 1);
        Check.due("reasons with one use left", Tills.reasons(x), "uu");
        Check.due("left with one use left", Tills.left(x), "11");
        x.sell();
        x.put(1, 100);
        Check.due("reasons with none left", Tills.reasons(x), "ll");
        Check.due("left with none left", Tills.left(x), "00");
    }

    /** 'l' before 'c' and before 'g' */
    private static void usedUpBeforeAllElse() {
        BasketOffers x = Tills.basket(1, 100, 2, 100);
        x.addPercentage(1, 10, 1, 0);
        x.addThreshold(150, 5, 1, 1);
        x.addPercentage(2, 1, 9, 0);
        x.addThreshold(1, 1, 9, 1);
        Check.due("reasons", Tills.reasons(x), "uugg");
        x.sell();
        Check.due("reasons of an empty basket", Tills.reasons(x), "llcc");
        x.put(2, 100);
        Check.due("reasons without an item of its kind", Tills.reasons(x), "lluu");
        x.put(1, 100);
        Check.due("reasons beside others of the groups", Tills.reasons(x), "lluu");
        x.setCustomer(1);
        Check.due("reasons of another customer", Tills.reasons(x), "uugg");
    }

    /** 'c' before 'g'; a threshold's sum is that of all prices, without discounts */
    private static void impossibleBeforeGroup() {
        BasketOffers x = Tills.basket(1, 100, 2, 50);
        x.addPercentage(1, 10, 1, 0);
        x.addPercentage(3, 10, 1, 0);
        x.addFreeItem(1, 2, 1, 0);
        x.addBundle(1, 2, -1, 150, 1, 0);
        x.addThreshold(151, 9, 1, 0);
        x.addThreshold(150, 9, 1, 0);
        Check.due("reasons", Tills.reasons(x), "uccccg");
        x.put(2, 1);
        Check.due("reasons with 1 more", Tills.reasons(x), "ucccgg");
    }

    /** 'g' before 'b'; offers of no group are never 'g' */
    private static void groupBeforeOthers() {
        BasketOffers x = Tills.basket(1, 100);
        x.addPercentage(1, 10, 1, 2);
        x.addPercentage(1, 10, 1, 2);
        x.addPercentage(1, 10, 1, -1);
        x.addPercentage(1, 9, 1, 3);
        x.addThreshold(1, 9, 1, 2);
        x.addThreshold(100, 9, 1, 3);
        Check.due("reasons", Tills.reasons(x), "ggubub");
        BasketOffers y = Tills.basket(1, 100);
        y.addThreshold(1, 50, 1, -1);
        y.addThreshold(100, 9, 1, -1);
        y.addPercentage(1, 10, 1, -1);
        Check.due("reasons", Tills.reasons(y), "ubu");
    }

    /** 'b' "other sets are better, or come first", also if it has a group, but no other offer of it is used */
    private static void othersAreBetter() {
        BasketOffers x = Tills.basket(1, 100);
        x.addPercentage(1, 20, 1, -1);
        x.addPercentage(1, 20, 1, 1);
        x.addPercentage(1, 21, 1, 2);
        x.addPercentage(1, 21, 1, -1);
        x.addPercentage(2, 90, 1, 1);
        Check.due("reasons", Tills.reasons(x), "bbubc");
        BasketOffers y = Tills.basket(1, 100);
        y.addPercentage(1, 60, 1, -1);
        y.addThreshold(81, 20, 1, 0);
        y.addThreshold(40, 1, 1, 1);
        y.addThreshold(41, 20, 1, 2);
        Check.due("reasons", Tills.reasons(y), "ubub");
    }

    // ---- spreading

    /** "the rest is given in ascending order of numbers, 1 to each item ..., until nothing is left" */
    private static void restOfAThreshold() {
        for (int amount = 1; amount <= 75; amount++) {
            BasketOffers x = Tills.basketOf(7, 1, 10);
            x.addThreshold(70, amount, 1, -1);
            int taken = Math.min(amount, 70);
            for (int item = 0; item < 7; item++) {
                int due = 10 - taken / 7 - (item < taken % 7 ? 1 : 0);
                Check.due("netPrice(" + item + ") of " + amount, x.netPrice(item), due);
            }
            Check.due("toPay() of " + amount, x.toPay(), 70 - taken);
            Check.due("bestDiscount() of " + amount, x.bestDiscount(), amount);
        }
    }

    private static void restOfAUse() {
        for (int count = 2; count <= 5; count++) {
            for (int price = 1; price <= 12; price++) {
                BasketOffers x = Tills.basketOf(count, 1, price);
                x.addFreeItem(1, count, 1, -1);
                for (int item = 0; item < count; item++) {
                    int due = price - price / count - (item < price % count ? 1 : 0);
                    Check.due("netPrice(" + item + ") of " + count + " for " + price, x.netPrice(item), due);
                }
                Check.due("toPay() of " + count + " for " + price, x.toPay(), price * (count - 1));
            }
        }
        BasketOffers one = Tills.basket(1, 1, 1, 3);
        one.addBundle(1, 1, -1, 1, 1, -1);
        Tills.best(one, 3, "0 0", "0 1");
    }

    /** "1 to each item that gets less than its price": nothing to one of which nothing is left */
    private static void restPastFreeItems() {
        BasketOffers x = Tills.basket(1, 1, 1, 1, 2, 1);
        x.addFreeItem(1, 2, 1, -1);
        x.addThreshold(2, 1, 1, -1);
        Tills.best(x, 2, "0 0 -1", "0 0 1");
        BasketOffers y = Tills.basket(2, 5, 1, 1, 1, 1, 2, 5);
        y.addFreeItem(1, 2, 1, -1);
        y.addThreshold(1, 4, 1, -1);
        Tills.best(y, 5, "-1 0 0 -1", "3 0 0 4");
    }

    /** "if this sum is greater than what is left of all prices, all that is left is taken off instead" */
    private static void moreThanIsLeft() {
        int[][] due = {{188, 0, 2}, {189, 0, 1}, {190, 0, 0}, {191, 0, 0}, {200, 0, 0}, {201, 0, 0}, {9999, 0, 0}};
        for (int[] d : due) {
            BasketOffers x = Tills.basket(1, 100, 2, 100);
            x.addPercentage(1, 10, 1, -1);
            x.addThreshold(1, d[0], 1, -1);
            Tills.best(x, 10 + d[0], "0 -1", d[1] + " " + d[2]);
            Check.due("toPay()", x.toPay(), d[1] + d[2]);
        }
        BasketOffers several = Tills.basket(1, 10);
        several.addThreshold(1, 6, 1, -1);
        several.addThreshold(1, 4, 1, -1);
        Tills.best(several, 0, 10, -1, 0);
        several.addThreshold(1, 1, 1, -1);
        Tills.best(several, 0, 11, -1, 0);
    }

    /** The greatest sums that can come up. */
    private static void dearestSpread() {
        BasketOffers x = Tills.basketOf(7, 1, 9999);
        for (int offer = 0; offer < 6; offer++) {
            x.addThreshold(1, 9999, 1, -1);
        }
        x.takeOut(0);
        Check.due("bestDiscount() of six of the dearest", x.bestDiscount(), 59994);
        Check.due("toPay() of six of the dearest", x.toPay(), 0);
        x.put(1, 9999);
        Check.due("toPay() of seven of the dearest", x.toPay(), 9999);
        Check.due("netPrice(1) of seven of the dearest", x.netPrice(1), 1428);
        Check.due("netPrice(7) of seven of the dearest", x.netPrice(7), 1429);
    }

    // ---- which items and offers there are

    /** offerOf and netPrice throw NoSuchElementException "if the item is not in the basket" */
    private static void itemsThatAreThere() {
        for (int items = 0; items <= 7; items++) {
            int count = items;
            for (int item = 0; item < items; item++) {
                Check.due("offerOf(" + item + ") of " + items, Tills.basketOf(items, 2, 9).offerOf(item), -1);
                Check.due("netPrice(" + item + ") of " + items, Tills.basketOf(items, 2, 9).netPrice(item), 9);
            }
            refusesItem(() -> Tills.basketOf(count, 2, 9), items, " of " + items);
        }
        for (int item : NUMBERS_OUTSIDE) {
            refusesItem(() -> several(7), item, " of seven");
        }
        for (int item = 0; item < 3; item++) {
            refusesItem(BestSetEdgesTest::oneLeft, item, " that is no more in the basket");
        }
        Check.due("offerOf(3)", oneLeft().offerOf(3), -1);
        Check.due("netPrice(3)", oneLeft().netPrice(3), 40);
    }

    private static void refusesItem(Supplier<BasketOffers> made, int item, String where) {
        Check.refuses(made, "offerOf(" + item + ")" + where, NoSuchElementException.class, x -> x.offerOf(item));
        Check.refuses(made, "netPrice(" + item + ")" + where, NoSuchElementException.class, x -> x.netPrice(item));
    }

    /** Of four items 0 was sold, 1 was given back, 2 was taken out, and 3 is in the basket. */
    private static BasketOffers oneLeft() {
        BasketOffers x = Tills.basket(1, 10, 1, 20);
        x.addFreeItem(1, 2, 2, -1);
        x.sell();
        x.giveBack(1);
        x.put(1, 30);
        x.put(1, 40);
        x.takeOut(2);
        return x;
    }

    /** uses and reason throw IndexOutOfBoundsException "if there is no such offer" */
    private static void offersThatAreThere() {
        for (int offers = 0; offers <= 6; offers++) {
            int count = offers;
            for (int offer = 0; offer < offers; offer++) {
                Check.due("uses(" + offer + ") of " + offers, thresholds(offers).uses(offer), 1);
                Check.due("reason(" + offer + ") of " + offers, thresholds(offers).reason(offer), 'u');
            }
            refusesOffer(() -> thresholds(count), offers);
            refusesOffer(() -> thresholds(count), -1);
        }
        for (int offer : NUMBERS_OUTSIDE) {
            refusesOffer(() -> thresholds(6), offer);
        }
    }

    private static void refusesOffer(Supplier<BasketOffers> made, int offer) {
        Check.refuses(made, "uses(" + offer + ")", IndexOutOfBoundsException.class, x -> x.uses(offer));
        Check.refuses(made, "reason(" + offer + ")", IndexOutOfBoundsException.class, x -> x.reason(offer));
    }

    private static BasketOffers thresholds(int count) {
        BasketOffers x = Tills.basket(1, 100);
        for (int offer = 0; offer < count; offer++) {
            x.addThreshold(1, 1, 1, -1);
        }
        return x;
    }
}
