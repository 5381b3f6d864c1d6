/** Tills that the tests begin with, and what they ask of them together. */
final class Tills {
    private Tills() {
    }

    /** A new till with a basket of these items, each told by its kind and its price. */
    static BasketOffers basket(int... kindsAndPrices) {
        BasketOffers x = new BasketOffers();
        for (int i = 0; i < kindsAndPrices.length; i += 2) {
            x.put(kindsAndPrices[i], kindsAndPrices[i + 1]);
        }
        return x;
    }

    /** A new till with so many items of a kind and a price. */
    static BasketOffers basketOf(int count, int kind, int price) {
        BasketOffers x = new BasketOffers();
        for (int i = 0; i < count; i++) {
            x.put(kind, price);
        }
        return x;
    }

    /** The best set of a basket whose items are numbered from 0: its discount, their offers and their net prices. */
    static void best(BasketOffers x, int discount, String offers, String nets) {
        Check.due("bestDiscount()", x.bestDiscount(), discount);
        if (x.items() <= 5) {
            Check.due("bestByTrying()", x.bestByTrying(), discount);
        }
        StringBuilder offersGot = new StringBuilder();
        StringBuilder netsGot = new StringBuilder();
        int toPay = 0;
        for (int item = 0; item < x.items(); item++) {
            offersGot.append(item > 0 ? " " : "").append(x.offerOf(item));
            netsGot.append(item > 0 ? " " : "").append(x.netPrice(item));
            toPay += x.netPrice(item);
        }
        Check.due("offerOf() of all items", offersGot.toString(), offers);
        Check.due("netPrice() of all items", netsGot.toString(), nets);
        Check.due("toPay()", x.toPay(), toPay);
    }

    /** The best set of a basket with one item. */
    static void best(BasketOffers x, int item, int discount, int offer, int net) {
        Check.due("bestDiscount()", x.bestDiscount(), discount);
        Check.due("bestByTrying()", x.bestByTrying(), discount);
        Check.due("offerOf(" + item + ")", x.offerOf(item), offer);
        Check.due("netPrice(" + item + ")", x.netPrice(item), net);
        Check.due("toPay()", x.toPay(), net);
    }

    /** The reasons of all offers in a row. */
    static String reasons(BasketOffers x) {
        StringBuilder text = new StringBuilder();
        int offers = x.offers();
        for (int offer = 0; offer < offers; offer++) {
            text.append(x.reason(offer));
        }
        return text.toString();
    }

    /** How often the best set uses each offer, in a row. */
    static String uses(BasketOffers x) {
        StringBuilder text = new StringBuilder();
        int offers = x.offers();
        for (int offer = 0; offer < offers; offer++) {
            text.append(x.uses(offer));
        }
        return text.toString();
    }

    /** How often the customer at the till can still use each offer, in a row. */
    static String left(BasketOffers x) {
        StringBuilder text = new StringBuilder();
        int offers = x.offers();
        for (int offer = 0; offer < offers; offer++) {
            text.append(x.left(offer));
        }
        return text.toString();
    }
}
