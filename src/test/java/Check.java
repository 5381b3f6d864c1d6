import java.util.function.Supplier;

/** What the tests have in common: they print each answer that is not due and count it. */
final class Check {
    interface Call {
        Object on(BasketOffers till);
    }

    private static int wrong;

    private Check() {
    }

    static void due(String call, Object got, Object want) {
        if (!want.equals(got)) {
            wrong++;
            System.out.println("  " + call + " answered " + got + ", due is " + want);
        }
    }

    /** The answer of a call, or the name of the exception that it throws. */
    static Object answer(BasketOffers till, Call call) {
        try {
            return call.on(till);
        } catch (RuntimeException e) {
            return "throws." + e.getClass().getSimpleName();
        }
    }

    /** The call throws just this exception on a new till, and changes nothing. */
    static void refuses(Supplier<BasketOffers> made, String name, Class<? extends RuntimeException> kind, Call call) {
        BasketOffers till = made.get();
        due(name, answer(till, call), "throws." + kind.getSimpleName());
        due("the state after " + name, state(till), state(made.get()));
    }

    /** All that a till answers without a change, with every customer at it. */
    static String state(BasketOffers till) {
        StringBuilder text = new StringBuilder();
        int atTill = till.setCustomer(0);
        text.append("customer ").append(atTill);
        text.append(" items ").append(till.items()).append(" sum ").append(till.sum());
        text.append(" offers ").append(till.offers());
        text.append(" uses ").append(till.usesInAll()).append(" turnover ").append(till.turnover());
        text.append(" share ").append(answer(till, BasketOffers::discountShare));
        text.append(" mean ").append(answer(till, BasketOffers::meanNetPrice));
        for (int customer = 0; customer < 4; customer++) {
            till.setCustomer(customer);
            text.append("\n  for ").append(customer).append(": ").append(till.bestDiscount());
            text.append(' ').append(answer(till, BasketOffers::bestByTrying)).append(' ').append(till.toPay());
            for (int offer = 0; offer < till.offers(); offer++) {
                text.append(" o").append(offer).append(' ').append(till.left(offer));
                text.append(' ').append(till.uses(offer)).append(till.reason(offer));
            }
            for (int item = 0; item < 60; item++) {
                int number = item;
                text.append(" i").append(answer(till, x -> x.offerOf(number)));
                text.append(' ').append(answer(till, x -> x.netPrice(number)));
                text.append(' ').append(answer(till, x -> x.soldTo(number)));
            }
        }
        till.setCustomer(atTill);
        return text.toString();
    }

    /** Ends a test's run. */
    static void end() {
        System.out.println(wrong == 0 ? "  all answers are as due" : "  " + wrong + " answers are not as due");
        if (wrong != 0) {
            System.exit(1);
        }
    }
}
