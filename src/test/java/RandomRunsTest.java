import java.util.List;
import java.util.Random;

/** All promises: runs of the 512 calls that a till is promised to answer, each of which must be as the reference's. */
public final class RandomRunsTest {
    private static final int MOST_CALLS = 512;
    private static final int MOST_STEPS = 2000;

    private interface Both {
        Object on(BasketOffers till, Reference reference, boolean real);
    }

    private final Random random;
    private final int kinds;
    private final int topPrice;
    private final int mostItems;
    private final boolean manyThresholds;
    private final int stepsBetweenAsking;
    private final BasketOffers till = new BasketOffers();
    private final Reference reference = new Reference();
    private final StringBuilder calls = new StringBuilder();
    private int callsMade;
    private boolean right = true;

    private RandomRunsTest(int seed) {
        random = new Random(seed);
        kinds = 1 + random.nextInt(4);
        topPrice = new int[] {3, 12, 200, 9999}[random.nextInt(4)];
        mostItems = random.nextInt(4) == 0 ? 7 : kinds == 1 ? 5 : 6;
        manyThresholds = random.nextInt(4) == 0;
        stepsBetweenAsking = new int[] {1, 2, 4, 40}[random.nextInt(4)];
    }

    public static void main(String[] args) {
        int runs = args.length > 0 ? Integer.parseInt(args[0]) : 600;
        for (int seed = 0; seed < runs; seed++) {
            new RandomRunsTest(seed).run(seed);
        }
        Check.end();
    }

    private void run(int seed) {
        int offers = 1 + random.nextInt(6);
        for (int step = 0; step < MOST_STEPS && callsMade < MOST_CALLS && right; step++) {
            if (step < 4 || random.nextInt(12) == 0 && reference.offers() < offers) {
                addOffer();
            } else {
                changeBasket();
            }
            if (random.nextInt(stepsBetweenAsking) == 0) {
                ask();
            }
        }
        if (!right) {
            System.out.println("  run " + seed + ":" + calls);
        }
    }

    private void same(String name, Both call) {
        if (callsMade >= MOST_CALLS) {
            return;
        }
        callsMade++;
        Object got = answer(call, true);
        Object want = answer(call, false);
        calls.append(' ').append(name);
        right &= want.equals(got);
        Check.due(name, got, want);
    }

    private Object answer(Both call, boolean real) {
        try {
            return call.on(till, reference, real);
        } catch (RuntimeException e) {
            return "throws." + e.getClass().getSimpleName();
        }
    }

    /** Mostly from low to high, now and then beside. */
    private int number(int low, int high) {
        if (random.nextInt(60) == 0) {
            return random.nextBoolean() ? low - 1 - random.nextInt(2) : high + 1 + random.nextInt(2);
        }
        return low + random.nextInt(high - low + 1);
    }

    private void addOffer() {
        int kind = number(0, kinds - 1);
        int limit = random.nextInt(3) == 0 ? number(1, 9) : number(1, 2);
        int group = random.nextInt(3) == 0 ? -1 : number(0, 1);
        int price = number(1, topPrice);
        switch (manyThresholds && random.nextInt(3) > 0 ? 3 : random.nextInt(4)) {
            case 0 -> {
                int percent = random.nextBoolean() ? 50 : number(1, 90);
                same("addPercentage(" + kind + ", " + percent + ", " + limit + ", " + group + ")", (x, y, real) -> real
                        ? x.addPercentage(kind, percent, limit, group) : y.addPercentage(kind, percent, limit, group));
            }
            case 1 -> {
                int count = number(2, random.nextBoolean() ? 3 : 5);
                same("addFreeItem(" + kind + ", " + count + ", " + limit + ", " + group + ")", (x, y, real) -> real
                        ? x.addFreeItem(kind, count, limit, group) : y.addFreeItem(kind, count, limit, group));
            }
            case 2 -> {
                int second = number(0, kinds - 1);
                int third = random.nextBoolean() ? -1 : number(0, kinds - 1);
                same("addBundle(" + kind + ", " + second + ", " + third + ", " + price + ", " + limit + ", " + group
                        + ")", (x, y, real) -> real ? x.addBundle(kind, second, third, price, limit, group)
                        : y.addBundle(kind, second, third, price, limit, group));
            }
            default -> {
                int threshold = number(1, Math.min(9999, topPrice * (manyThresholds ? 1 : 3)));
                same("addThreshold(" + threshold + ", " + price + ", " + limit + ", " + group + ")", (x, y, real) -> real
                        ? x.addThreshold(threshold, price, limit, group) : y.addThreshold(threshold, price, limit, group));
            }
        }
    }

    private void changeBasket() {
        int what = random.nextInt(20);
        if (what < 12 && reference.items() < mostItems || what == 0) {
            int kind = number(0, kinds - 1);
            int price = number(1, topPrice);
            same("put(" + kind + ", " + price + ")", (x, y, real) -> real ? x.put(kind, price) : y.put(kind, price));
        } else if (what < 15) {
            int item = anItem();
            same("takeOut(" + item + ")", (x, y, real) -> real ? x.takeOut(item) : y.takeOut(item));
        } else if (what < 16) {
            int customer = number(0, 3);
            same("setCustomer(" + customer + ")", (x, y, real) -> real ? x.setCustomer(customer)
                    : y.setCustomer(customer));
        } else if (what < 18) {
            same("sell()", (x, y, real) -> real ? x.sell() : y.sell());
        } else {
            int item = anItem();
            same("giveBack(" + item + ")", (x, y, real) -> real ? x.giveBack(item) : y.giveBack(item));
        }
    }

    private int anItem() {
        List<Integer> inBasket = reference.numbersInBasket();
        boolean fromBasket = !inBasket.isEmpty() && random.nextBoolean();
        return fromBasket ? inBasket.get(random.nextInt(inBasket.size())) : number(0, reference.numbersGiven());
    }

    /** The first call after a change must not need another one before it. */
    private void askFirst() {
        int offer = random.nextInt(7);
        int item = anItem();
        switch (random.nextInt(7)) {
            case 0 -> same("bestByTrying()", (x, y, real) -> real ? x.bestByTrying() : y.bestByTrying());
            case 1 -> same("toPay()", (x, y, real) -> real ? x.toPay() : y.toPay());
            case 2 -> same("uses(" + offer + ")", (x, y, real) -> real ? x.uses(offer) : y.uses(offer));
            case 3 -> same("reason(" + offer + ")", (x, y, real) -> real ? (Object) x.reason(offer)
                    : (Object) y.reason(offer));
            case 4 -> same("offerOf(" + item + ")", (x, y, real) -> real ? x.offerOf(item) : y.offerOf(item));
            case 5 -> same("netPrice(" + item + ")", (x, y, real) -> real ? x.netPrice(item) : y.netPrice(item));
            default -> same("left(" + offer + ")", (x, y, real) -> real ? x.left(offer) : y.left(offer));
        }
    }

    private void ask() {
        askFirst();
        same("bestDiscount()", (x, y, real) -> real ? x.bestDiscount() : y.bestDiscount());
        same("bestByTrying()", (x, y, real) -> real ? x.bestByTrying() : y.bestByTrying());
        same("toPay()", (x, y, real) -> real ? x.toPay() : y.toPay());
        same("items()", (x, y, real) -> real ? x.items() : y.items());
        same("sum()", (x, y, real) -> real ? x.sum() : y.sum());
        same("offers()", (x, y, real) -> real ? x.offers() : y.offers());
        same("usesInAll()", (x, y, real) -> real ? x.usesInAll() : y.usesInAll());
        same("turnover()", (x, y, real) -> real ? x.turnover() : y.turnover());
        same("discountShare()", (x, y, real) -> real ? (Object) x.discountShare() : (Object) y.discountShare());
        same("meanNetPrice()", (x, y, real) -> real ? (Object) x.meanNetPrice() : (Object) y.meanNetPrice());
        for (int item : List.of(anItem(), anItem(), -1)) {
            same("soldTo(" + item + ")", (x, y, real) -> real ? x.soldTo(item) : y.soldTo(item));
        }
        for (int offer = -1; offer <= reference.offers(); offer++) {
            int o = offer;
            same("left(" + o + ")", (x, y, real) -> real ? x.left(o) : y.left(o));
            same("uses(" + o + ")", (x, y, real) -> real ? x.uses(o) : y.uses(o));
            same("reason(" + o + ")", (x, y, real) -> real ? (Object) x.reason(o) : (Object) y.reason(o));
        }
        List<Integer> numbers = reference.numbersInBasket();
        numbers.add(anItem());
        numbers.add(-1);
        for (int item : numbers) {
            same("offerOf(" + item + ")", (x, y, real) -> real ? x.offerOf(item) : y.offerOf(item));
            same("netPrice(" + item + ")", (x, y, real) -> real ? x.netPrice(item) : y.netPrice(item));
        }
    }
}
