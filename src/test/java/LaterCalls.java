/**
 * Runs of calls on a till that was used before, with all their answers told as a text. Together they ask and change
 * all that a till keeps. None has more than 300 calls, because a till is promised to answer 512 in all.
 */
enum LaterCalls {
    ASKED {
        void run(BasketOffers till, StringBuilder text) {
            ask(till, text);
        }
    },
    ASKED_FOR_ALL_CUSTOMERS {
        void run(BasketOffers till, StringBuilder text) {
            for (int customer = 3; customer >= 0; customer--) {
                text.append("\n  customer ").append(till.setCustomer(customer));
                askForOffers(till, text);
                for (int item = 0; item < 15; item++) {
                    tell(text, till, "offerOf", BasketOffers::offerOf, item);
                    tell(text, till, "netPrice", BasketOffers::netPrice, item);
                }
            }
        }
    },
    SOLD {
        void run(BasketOffers till, StringBuilder text) {
            text.append(" sell ").append(Check.answer(till, BasketOffers::sell));
            ask(till, text);
            text.append(" sell ").append(Check.answer(till, BasketOffers::sell));
        }
    },
    ALL_GIVEN_BACK {
        void run(BasketOffers till, StringBuilder text) {
            for (int time = 0; time < 2; time++) {
                for (int item = 0; item < 60; item++) {
                    tell(text, till, "giveBack", BasketOffers::giveBack, item);
                }
                askForSales(till, text);
            }
            askForOffers(till, text);
        }
    },
    ALL_TAKEN_OUT {
        void run(BasketOffers till, StringBuilder text) {
            for (int item = 0; item < 60; item++) {
                tell(text, till, "takeOut", BasketOffers::takeOut, item);
            }
            ask(till, text);
        }
    },
    FILLED {
        void run(BasketOffers till, StringBuilder text) {
            for (int time = 0; time < 8; time++) {
                tell(text, till, "put", (x, price) -> x.put(1, price), 50 + time);
            }
            ask(till, text);
        }
    },
    WITH_MORE_OFFERS {
        void run(BasketOffers till, StringBuilder text) {
            tell(text, till, "addThreshold", (x, number) -> x.addThreshold(number, 7, 1, 0), 2);
            tell(text, till, "addPercentage", (x, number) -> x.addPercentage(number, 35, 1, -1), 2);
            tell(text, till, "addFreeItem", (x, number) -> x.addFreeItem(1, number, 1, -1), 2);
            tell(text, till, "addBundle", (x, number) -> x.addBundle(2, number, -1, 1, 1, -1), 2);
            for (int time = 0; time < 6; time++) {
                tell(text, till, "addPercentage", (x, number) -> x.addPercentage(1, number, 9, 3), 40 + time);
            }
            ask(till, text);
        }
    };

    interface OfNumber {
        Object on(BasketOffers till, int number);
    }

    abstract void run(BasketOffers till, StringBuilder text);

    /** The run's answers. */
    String on(BasketOffers till) {
        StringBuilder text = new StringBuilder();
        run(till, text);
        return text.toString();
    }

    private static void tell(StringBuilder text, BasketOffers till, String name, OfNumber call, int number) {
        text.append(' ').append(name).append('(').append(number).append(") ");
        text.append(Check.answer(till, x -> call.on(x, number)));
    }

    private static void ask(BasketOffers till, StringBuilder text) {
        askForOffers(till, text);
        askForSales(till, text);
        for (int item = 0; item < 60; item++) {
            tell(text, till, "offerOf", BasketOffers::offerOf, item);
            tell(text, till, "netPrice", BasketOffers::netPrice, item);
            tell(text, till, "soldTo", BasketOffers::soldTo, item);
        }
        text.append(" customer ").append(till.setCustomer(0));
    }

    private static void askForOffers(BasketOffers till, StringBuilder text) {
        text.append(" bestDiscount ").append(till.bestDiscount()).append(" toPay ").append(till.toPay());
        text.append(" bestByTrying ").append(Check.answer(till, BasketOffers::bestByTrying));
        text.append(" items ").append(till.items()).append(" sum ").append(till.sum());
        text.append(" offers ").append(till.offers());
        for (int offer = 0; offer < till.offers(); offer++) {
            tell(text, till, "left", BasketOffers::left, offer);
            tell(text, till, "uses", BasketOffers::uses, offer);
            tell(text, till, "reason", BasketOffers::reason, offer);
        }
    }

    private static void askForSales(BasketOffers till, StringBuilder text) {
        text.append(" usesInAll ").append(till.usesInAll()).append(" turnover ").append(till.turnover());
        text.append(" discountShare ").append(Check.answer(till, BasketOffers::discountShare));
        text.append(" meanNetPrice ").append(Check.answer(till, BasketOffers::meanNetPrice));
    }
}
