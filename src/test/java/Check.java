import java.util.function.Supplier;

/** What the tests have in common: they print each answer that is not due and count it. */
final class Check {
    interface Call {
        Object on(BasketOffers till);
    }

    private static int wrong;

    private Check() {
    }

    static void due(String call, Object got, Object want) {
        if (!want.equals(got)) {
            wrong++;
            System.out.println("  " + call + " answered " + got + ", due is " + want);
        }
    }

    /** The answer of a call, or the name of the exception that it throws. */
    static Object answer(BasketOffers till, Call call) {
        try {
            return call.on(till);
        } catch (RuntimeException e) {
            return "throws." + e.getClass().getSimpleName();
        }
    }

    /** The call throws just this exception on a new till, and changes nothing that any later call answers. */
    static void refuses(Supplier<BasketOffers> made, String name, Class<? extends RuntimeException> kind, Call call) {
        for (LaterCalls later : LaterCalls.values()) {
            refusesBefore(made, name, kind, call, later);
        }
        BasketOffers asked = made.get();
        int discount = asked.bestDiscount();
        due(name + " after bestDiscount()", answer(asked, call), "throws." + kind.getSimpleName());
        due("bestDiscount() again after " + name, asked.bestDiscount(), discount);
    }

    private static void refusesBefore(Supplier<BasketOffers> made, String name, Class<? extends RuntimeException> kind,
            Call call, LaterCalls later) {
        BasketOffers till = made.get();
        due(name, answer(till, call), "throws." + kind.getSimpleName());
        due(later + " after " + name, later.on(till), later.on(made.get()));
    }

    /** Ends a test's run. */
    static void end() {
        System.out.println(wrong == 0 ? "  all answers are as due" : "  " + wrong + " answers are not as due");
        if (wrong != 0) {
            System.exit(1);
        }
    }
}
