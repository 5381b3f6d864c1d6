import java.util.Arrays;
import java.util.function.Supplier;

/** The boundary cases of promises 7 to 12, and of what the document's terms say of offers. */
public final class OffersEdgesTest {
    private static final Class<IllegalArgumentException> ARGUMENT = IllegalArgumentException.class;
    private static final Class<IllegalStateException> STATE = IllegalStateException.class;

    private interface Adding {
        int add(BasketOffers x, int[] numbers);
    }

    /** A method that adds an offer: its numbers' least and greatest ones, and ordinary ones. */
    private record Method(String name, Adding call, int[] least, int[] greatest, int[] ordinary) { }

    private static final Method[] METHODS = {
        new Method("addPercentage", (x, n) -> x.addPercentage(n[0], n[1], n[2], n[3]),
                new int[] {0, 1, 1, -1}, new int[] {9, 90, 9, 3}, new int[] {1, 20, 2, 0}),
        new Method("addFreeItem", (x, n) -> x.addFreeItem(n[0], n[1], n[2], n[3]),
                new int[] {0, 2, 1, -1}, new int[] {9, 5, 9, 3}, new int[] {1, 3, 2, 0}),
        new Method("addBundle", (x, n) -> x.addBundle(n[0], n[1], n[2], n[3], n[4], n[5]),
                new int[] {0, 0, -1, 1, 1, -1}, new int[] {9, 9, 9, 9999, 9, 3}, new int[] {1, 2, 3, 60, 2, 0}),
        new Method("addThreshold", (x, n) -> x.addThreshold(n[0], n[1], n[2], n[3]),
                new int[] {1, 1, 1, -1}, new int[] {9999, 9999, 9, 3}, new int[] {60, 20, 2, 0}),
    };

    public static void main(String[] args) {
        for (Method method : METHODS) {
            inRange(method);
            outOfRange(method);
            sixOffers(method);
        }
        kindsOfOffers();
        percentages();
        percentageOfNothing();
        numbersOfFreeItems();
        bundlePrices();
        bundlesOfTwoAndThree();
        bundlesOfAlikeKinds();
        thresholds();
        thresholdsAndDiscounts();
        thresholdOnce();
        amounts();
        leastLimit();
        greatestLimit();
        groups();
        leftOfWhichOffers();
        offersCounted();
        Check.end();
    }

    // ---- the numbers

    /** Each number at its least and its greatest, alone and with all others at theirs. */
    private static void inRange(Method method) {
        for (int[] numbers : new int[][] {method.least, method.greatest, method.ordinary}) {
            BasketOffers x = new BasketOffers();
            Check.due(told(method, numbers), method.call.add(x, numbers), 0);
            Check.due("offers() after " + told(method, numbers), x.offers(), 1);
            Check.due("left(0) after " + told(method, numbers), x.left(0), numbers[numbers.length - 2]);
        }
        for (int place = 0; place < method.ordinary.length; place++) {
            for (int number : new int[] {method.least[place], method.greatest[place]}) {
                int[] numbers = method.ordinary.clone();
                numbers[place] = number;
                Check.due(told(method, numbers), method.call.add(new BasketOffers(), numbers), 0);
            }
        }
    }

    /** "Throws IllegalArgumentException if a number is out of range", also "if there are 6 offers" */
    private static void outOfRange(Method method) {
        for (int place = 0; place < method.ordinary.length; place++) {
            for (int number : new int[] {method.least[place] - 1, method.greatest[place] + 1, Integer.MIN_VALUE,
                Integer.MAX_VALUE}) {
                int[] numbers = method.ordinary.clone();
                numbers[place] = number;
                refusesWrong(method, numbers);
            }
        }
        int[] allTooLow = method.least.clone();
        int[] allTooHigh = method.greatest.clone();
        for (int place = 0; place < method.ordinary.length; place++) {
            allTooLow[place]--;
            allTooHigh[place]++;
        }
        refusesWrong(method, allTooLow);
        refusesWrong(method, allTooHigh);
    }

    private static void refusesWrong(Method method, int[] numbers) {
        Check.refuses(BasketOffers::new, told(method, numbers), ARGUMENT, x -> method.call.add(x, numbers));
        for (int offers : new int[] {5, 6}) {
            Check.refuses(tillWith(offers), told(method, numbers) + " beside " + offers, ARGUMENT,
                    x -> method.call.add(x, numbers));
        }
    }

    /** "At most 6 offers are numbered from 0."; "Throws IllegalStateException if there are 6 offers" */
    private static void sixOffers(Method method) {
        for (int offers = 0; offers < 6; offers++) {
            BasketOffers x = tillWith(offers).get();
            Check.due(method.name + " beside " + offers, method.call.add(x, method.ordinary), offers);
            Check.due("offers() then", x.offers(), offers + 1);
        }
        for (int[] numbers : new int[][] {method.least, method.greatest, method.ordinary}) {
            Check.refuses(tillWith(6), told(method, numbers) + " as a seventh", STATE,
                    x -> method.call.add(x, numbers));
        }
        BasketOffers x = tillWith(6).get();
        x.sell();
        x.setCustomer(3);
        Check.due(method.name + " as a seventh after a sale", Check.answer(x, t -> method.call.add(t, method.ordinary)),
                "throws.IllegalStateException");
    }

    private static String told(Method method, int[] numbers) {
        return method.name + Arrays.toString(numbers);
    }

    private static Supplier<BasketOffers> tillWith(int offers) {
        return () -> {
            BasketOffers x = Tills.basket(1, 70, 1, 50, 2, 40, 3, 30);
            for (int offer = 0; offer < offers; offer++) {
                Method method = METHODS[offer % METHODS.length];
                method.call.add(x, method.ordinary);
            }
            return x;
        };
    }

    // ---- what the offers do at the edges of their numbers

    /** "kind: the kind, 0 to 9" */
    private static void kindsOfOffers() {
        for (int kind = 0; kind <= 9; kind++) {
            int other = (kind + 9) % 10;
            BasketOffers p = Tills.basket(other, 100, kind, 100);
            p.addPercentage(kind, 50, 1, -1);
            Tills.best(p, 50, "-1 0", "100 50");
            BasketOffers f = Tills.basket(other, 100, kind, 100, kind, 100);
            f.addFreeItem(kind, 2, 1, -1);
            Tills.best(f, 100, "-1 0 0", "100 50 50");
            BasketOffers b = Tills.basket(other, 100, kind, 100, kind, 100);
            b.addBundle(kind, kind, -1, 100, 1, -1);
            Tills.best(b, 100, "-1 0 0", "100 50 50");
            BasketOffers t = Tills.basket(other, 100, kind, 100, (kind + 1) % 10, 100);
            t.addBundle((kind + 1) % 10, other, kind, 200, 1, -1);
            Tills.best(t, 100, "0 0 0", "66 67 67");
        }
    }

    /** "the price times the percentage, divided by 100, rounded down": 1 and 90 percent of 1 and 9999 */
    private static void percentages() {
        int[][] due = {{1, 1, 0}, {99, 1, 0}, {100, 1, 1}, {199, 1, 1}, {200, 1, 2}, {9999, 1, 99}, {1, 90, 0},
            {2, 90, 1}, {10, 90, 9}, {9999, 90, 8999}, {9998, 90, 8998}, {3, 33, 0}, {3, 34, 1}};
        for (int[] d : due) {
            BasketOffers x = Tills.basket(1, d[0]);
            x.addPercentage(1, d[1], 1, -1);
            Tills.best(x, 0, d[2], 0, d[0] - d[2]);
        }
    }

    /** A percentage offer's discount: "it can be used also if this is 0" */
    private static void percentageOfNothing() {
        BasketOffers x = Tills.basket(1, 1);
        x.addPercentage(1, 90, 1, -1);
        Tills.best(x, 0, 0, 0, 1);
        Check.due("uses(0) without a discount", x.uses(0), 1);
        Check.due("reason(0) without a discount", x.reason(0), 'u');
        Check.due("sell()", x.sell(), 1);
        Check.due("left(0) after a use without a discount", x.left(0), 0);
        Check.due("usesInAll() after a use without a discount", x.usesInAll(), 1);
        BasketOffers seven = Tills.basketOf(7, 1, 1);
        seven.addPercentage(1, 1, 9, -1);
        Tills.best(seven, 0, "0 0 0 0 0 0 0", "1 1 1 1 1 1 1");
    }

    /** "the number of items that it uses, 2 to 5"; "the price of the cheapest one of them" */
    private static void numbersOfFreeItems() {
        for (int count = 2; count <= 5; count++) {
            for (int items = 0; items <= 7; items++) {
                BasketOffers x = Tills.basketOf(items, 1, 60);
                if (items < 7) {
                    x.put(2, 60);
                }
                x.addFreeItem(1, count, 9, -1);
                int uses = items / count;
                Check.due("uses(0) of " + count + " with " + items, x.uses(0), uses);
                Check.due("reason(0) of " + count + " with " + items, x.reason(0), uses > 0 ? 'u' : 'c');
                Check.due("bestDiscount() of " + count + " with " + items, x.bestDiscount(), 60 * uses);
            }
        }
        BasketOffers two = Tills.basket(1, 1, 1, 9999);
        two.addFreeItem(1, 2, 1, -1);
        Tills.best(two, 1, "0 0", "0 9999");
        BasketOffers five = Tills.basket(1, 50, 1, 10, 1, 40, 1, 20, 1, 30);
        five.addFreeItem(1, 5, 1, -1);
        Tills.best(five, 10, "0 0 0 0 0", "46 9 38 19 28");
        BasketOffers seven = Tills.basket(1, 1, 1, 5, 1, 2, 1, 7, 1, 6, 1, 4, 1, 3);
        seven.addFreeItem(1, 5, 9, -1);
        Tills.best(seven, 3, "-1 0 -1 0 0 0 0", "1 4 2 6 5 4 3");
    }

    /** "the sum of their prices minus the price of the bundle, and it can be used only if this is greater than 0" */
    private static void bundlePrices() {
        BasketOffers least = Tills.basket(1, 1, 2, 1);
        least.addBundle(1, 2, -1, 1, 1, -1);
        Tills.best(least, 1, "0 0", "0 1");
        int[][] due = {{1, 1, 2, 0}, {1, 1, 3, 0}, {1, 1, 9999, 0}, {9998, 1, 9999, 0}, {9998, 1, 9998, 1},
            {9999, 1, 9999, 1}, {9997, 1, 9999, 0}, {9999, 9999, 9999, 9999}, {9999, 9999, 1, 19997}};
        for (int[] d : due) {
            BasketOffers x = Tills.basket(1, d[0], 2, d[1]);
            x.addBundle(2, 1, -1, d[2], 1, -1);
            Check.due("bestDiscount() of a bundle for " + d[2], x.bestDiscount(), d[3]);
            Check.due("bestByTrying() of a bundle for " + d[2], x.bestByTrying(), d[3]);
            Check.due("uses(0) of a bundle for " + d[2], x.uses(0), d[3] > 0 ? 1 : 0);
            Check.due("reason(0) of a bundle for " + d[2], x.reason(0), d[3] > 0 ? 'u' : 'c');
            Check.due("offerOf(1) of a bundle for " + d[2], x.offerOf(1), d[3] > 0 ? 0 : -1);
            Check.due("toPay() of a bundle for " + d[2], x.toPay(), d[0] + d[1] - d[3]);
        }
        BasketOffers three = Tills.basket(1, 9999, 2, 9999, 3, 9999);
        three.addBundle(1, 2, 3, 1, 1, -1);
        Tills.best(three, 29996, "0 0 0", "0 0 1");
        BasketOffers none = Tills.basket(1, 3333, 2, 3333, 3, 3333);
        none.addBundle(1, 2, 3, 9999, 1, -1);
        Tills.best(none, 0, "-1 -1 -1", "3333 3333 3333");
    }

    /** "third: a kind, 0 to 9, or -1 for a bundle of two" */
    private static void bundlesOfTwoAndThree() {
        BasketOffers two = Tills.basket(3, 10, 4, 10, 0, 10);
        two.addBundle(3, 4, -1, 5, 1, -1);
        Tills.best(two, 15, "0 0 -1", "2 3 10");
        BasketOffers three = Tills.basket(3, 10, 4, 10, 0, 10);
        three.addBundle(3, 4, 0, 5, 1, -1);
        Tills.best(three, 25, "0 0 0", "1 2 2");
        BasketOffers missing = Tills.basket(3, 10, 4, 10, 1, 10);
        missing.addBundle(3, 4, 0, 5, 1, -1);
        Tills.best(missing, 0, "-1 -1 -1", "10 10 10");
        for (int absent = 0; absent < 3; absent++) {
            BasketOffers x = new BasketOffers();
            for (int kind = 0; kind < 3; kind++) {
                x.put(kind == absent ? 7 : kind, 10);
            }
            x.addBundle(0, 1, 2, 5, 1, -1);
            Check.due("reason(0) without kind " + absent, x.reason(0), 'c');
            x.addBundle((absent + 1) % 3, (absent + 2) % 3, -1, 5, 1, -1);
            Check.due("reason(1) without kind " + absent, x.reason(1), 'u');
        }
    }

    /** Kinds "which can be alike, so that it uses as many items of a kind as it has this kind" */
    private static void bundlesOfAlikeKinds() {
        int[][] bundles = {{1, 1, -1}, {1, 1, 2}, {1, 2, 1}, {2, 1, 1}, {1, 1, 1}};
        for (int[] b : bundles) {
            int ones = (b[0] == 1 ? 1 : 0) + (b[1] == 1 ? 1 : 0) + (b[2] == 1 ? 1 : 0);
            int twos = (b[0] == 2 ? 1 : 0) + (b[1] == 2 ? 1 : 0) + (b[2] == 2 ? 1 : 0);
            for (int basket = 0; basket < 16; basket++) {
                int onesThere = basket % 4;
                int twosThere = basket / 4;
                BasketOffers x = new BasketOffers();
                for (int item = 0; item < onesThere + twosThere; item++) {
                    x.put(item < onesThere ? 1 : 2, 10);
                }
                x.addBundle(b[0], b[1], b[2], 1, 1, -1);
                boolean possible = onesThere >= ones && twosThere >= twos;
                String name = Arrays.toString(b) + " with " + onesThere + " and " + twosThere;
                Check.due("uses(0) of " + name, x.uses(0), possible ? 1 : 0);
                Check.due("bestDiscount() of " + name, x.bestDiscount(), possible ? 10 * (ones + twos) - 1 : 0);
                int used = 0;
                for (int item = 0; item < x.items(); item++) {
                    used += x.offerOf(item) == 0 ? item < onesThere ? 1 : 10 : 0;
                }
                Check.due("the items in " + name, used, possible ? ones + 10 * twos : 0);
            }
        }
    }

    /** "it can be used once if the sum of all prices in the basket ... is not less than its threshold" */
    private static void thresholds() {
        int[][] due = {{1, 1, 1}, {1, 2, 0}, {2, 2, 1}, {99, 100, 0}, {100, 100, 1}, {101, 100, 1}, {9999, 9999, 1},
            {9998, 9999, 0}, {9999, 1, 1}};
        for (int[] d : due) {
            BasketOffers x = Tills.basket(1, d[0]);
            x.addThreshold(d[1], 1, 1, -1);
            String name = " of a threshold of " + d[1] + " with " + d[0];
            Check.due("uses(0)" + name, x.uses(0), d[2]);
            Check.due("reason(0)" + name, x.reason(0), d[2] == 1 ? 'u' : 'c');
            Check.due("bestDiscount()" + name, x.bestDiscount(), d[2]);
            Check.due("bestByTrying()" + name, x.bestByTrying(), d[2]);
            Check.due("netPrice(0)" + name, x.netPrice(0), d[0] - d[2]);
        }
        BasketOffers empty = new BasketOffers();
        empty.addThreshold(1, 1, 9, -1);
        Check.due("uses(0) of an empty basket", empty.uses(0), 0);
        Check.due("reason(0) of an empty basket", empty.reason(0), 'c');
        Check.due("bestDiscount() of an empty basket", empty.bestDiscount(), 0);
        Check.due("bestByTrying() of an empty basket", empty.bestByTrying(), 0);
        BasketOffers seven = Tills.basketOf(7, 1, 10);
        seven.addThreshold(70, 1, 1, -1);
        seven.addThreshold(71, 1, 1, -1);
        Check.due("uses() of seven items", Tills.uses(seven), "10");
    }

    /** "minus the discounts of all offers that use items", and not minus those of threshold offers */
    private static void thresholdsAndDiscounts() {
        for (int threshold = 89; threshold <= 92; threshold++) {
            BasketOffers x = Tills.basket(1, 100);
            x.addPercentage(1, 10, 1, -1);
            x.addThreshold(threshold, 5, 1, -1);
            boolean reached = threshold <= 90;
            Tills.best(x, 0, reached ? 15 : 10, 0, reached ? 85 : 90);
            Check.due("reasons of a threshold of " + threshold, Tills.reasons(x), reached ? "uu" : "ub");
        }
        BasketOffers x = Tills.basket(1, 100);
        x.addThreshold(100, 60, 1, -1);
        x.addThreshold(100, 30, 1, -1);
        x.addThreshold(100, 9, 1, -1);
        Tills.best(x, 0, 99, -1, 1);
        Check.due("uses() of three thresholds", Tills.uses(x), "111");
    }

    /** A threshold offer "can be used once" */
    private static void thresholdOnce() {
        BasketOffers x = Tills.basket(1, 9999, 2, 9999);
        x.addThreshold(1, 1, 9, -1);
        for (int sale = 0; sale < 9; sale++) {
            Check.due("bestDiscount() of a threshold", x.bestDiscount(), 1);
            Check.due("uses(0) of a threshold", x.uses(0), 1);
            Check.due("left(0) of a threshold", x.left(0), 9 - sale);
            x.sell();
            Check.due("usesInAll() of a threshold", x.usesInAll(), sale + 1);
            x.put(1, 9999);
        }
        Check.due("left(0) after nine sales", x.left(0), 0);
        Check.due("reason(0) after nine sales", x.reason(0), 'l');
        Check.due("bestDiscount() after nine sales", x.bestDiscount(), 0);
    }

    /** "amount: the amount, 1 to 9999" */
    private static void amounts() {
        for (int amount : new int[] {1, 2, 9998, 9999}) {
            BasketOffers x = Tills.basket(1, 9999);
            x.addThreshold(9999, amount, 1, -1);
            Tills.best(x, 0, amount, -1, 9999 - amount);
        }
    }

    // ---- limits and groups

    /** "a limit from 1 to 9, which tells how often each customer can use it in all" */
    private static void leastLimit() {
        BasketOffers x = Tills.basket(1, 100, 1, 100);
        x.addPercentage(1, 10, 1, -1);
        Tills.best(x, 10, "0 -1", "90 100");
        Check.due("left(0) before the sale", x.left(0), 1);
        x.sell();
        x.put(1, 100);
        for (int customer = 3; customer >= 0; customer--) {
            x.setCustomer(customer);
            Check.due("left(0) of " + customer, x.left(0), customer == 0 ? 0 : 1);
            Check.due("reason(0) of " + customer, x.reason(0), customer == 0 ? 'l' : 'u');
            Check.due("bestDiscount() of " + customer, x.bestDiscount(), customer == 0 ? 0 : 10);
        }
    }

    private static void greatestLimit() {
        BasketOffers x = Tills.basketOf(7, 1, 100);
        x.addPercentage(1, 10, 9, -1);
        Check.due("uses(0) of seven items", x.uses(0), 7);
        x.sell();
        Check.due("left(0) after seven uses", x.left(0), 2);
        for (int item = 0; item < 3; item++) {
            x.put(1, 100);
        }
        Check.due("uses(0) with two left", x.uses(0), 2);
        Check.due("bestByTrying() with two left", x.bestByTrying(), 20);
        x.setCustomer(3);
        Check.due("uses(0) of another customer", x.uses(0), 3);
        Check.due("left(0) of another customer", x.left(0), 9);
        x.setCustomer(0);
        x.takeOut(9);
        Check.due("sell() with two left", x.sell(), 180);
        Check.due("left(0) after nine uses", x.left(0), 0);
        x.put(1, 100);
        Check.due("uses(0) after nine uses", x.uses(0), 0);
        Check.due("reason(0) after nine uses", x.reason(0), 'l');
        Check.due("sell() after nine uses", x.sell(), 100);
    }

    /** "a group from 0 to 3, or none"; "of the offers of a group only one is used, maybe several times" */
    private static void groups() {
        for (int first = -1; first <= 3; first++) {
            for (int second = -1; second <= 3; second++) {
                boolean apart = first != second || first == -1;
                BasketOffers x = Tills.basket(1, 100, 1, 100, 2, 100);
                x.addPercentage(1, 20, 9, first);
                x.addPercentage(2, 30, 9, second);
                Tills.best(x, apart ? 70 : 40, apart ? "0 0 1" : "0 0 -1", apart ? "80 80 70" : "80 80 100");
                Check.due("reasons of groups " + first + " and " + second, Tills.reasons(x), apart ? "uu" : "ug");
                BasketOffers y = Tills.basket(1, 100);
                y.addThreshold(1, 30, 9, first);
                y.addThreshold(1, 40, 9, second);
                Tills.best(y, 0, apart ? 70 : 40, -1, apart ? 30 : 60);
                Check.due("reasons of groups " + first + " and " + second, Tills.reasons(y), apart ? "uu" : "gu");
            }
        }
    }

    // ---- left and offers

    /** left throws IndexOutOfBoundsException "if there is no such offer" */
    private static void leftOfWhichOffers() {
        for (int offers = 0; offers <= 6; offers++) {
            BasketOffers x = tillWith(offers).get();
            for (int offer = 0; offer < offers; offer++) {
                Check.due("left(" + offer + ") of " + offers, x.left(offer), 2);
            }
            for (int offer : new int[] {-1, offers, offers + 1, 7, Integer.MIN_VALUE, Integer.MAX_VALUE}) {
                Check.refuses(tillWith(offers), "left(" + offer + ") of " + offers, IndexOutOfBoundsException.class,
                        t -> t.left(offer));
            }
        }
    }

    /** "Returns the number of offers.", from 0 to 6 */
    private static void offersCounted() {
        BasketOffers x = new BasketOffers();
        for (int offers = 0; offers <= 6; offers++) {
            Check.due("offers()", x.offers(), offers);
            Check.answer(x, t -> t.addPercentage(10, 1, 1, -1));
            Check.due("offers() after a wrong one", x.offers(), offers);
            Check.answer(x, t -> t.addThreshold(1, 1, 1, -1));
        }
        Check.due("offers() after a seventh", x.offers(), 6);
        x.put(1, 1);
        x.sell();
        x.setCustomer(1);
        Check.due("offers() after a sale", x.offers(), 6);
    }
}
