import java.util.ArrayList;
import java.util.Collections;
import java.util.List;
import java.util.NoSuchElementException;
import java.util.TreeMap;

/** The document's words said again as plainly as can be: all sets are made and compared. */
final class Reference {
    private record Item(int number, int kind, int price) { }

    /** The kinds of the items that a use takes; none for a threshold offer. */
    private record Offer(char type, List<Integer> kinds, int amount, int threshold, int limit, int group) { }

    private record Use(int offer, List<Integer> items, int discount) { }

    private record Choice(List<Use> uses, List<Integer> thresholds, int discount) { }

    private record Sale(int customer, int price, int net) { }

    private final TreeMap<Integer, Item> basket = new TreeMap<>();
    private final List<Offer> offers = new ArrayList<>();
    private final TreeMap<Integer, Sale> sales = new TreeMap<>();
    private final List<Integer> givenBack = new ArrayList<>();
    private final int[][] used = new int[4][6];
    private int given;
    private int customer;
    private int usesInAll;
    private Choice known;

    private static void need(boolean holds, RuntimeException otherwise) {
        if (!holds) {
            throw otherwise;
        }
    }

    private static boolean in(int x, int low, int high) {
        return low <= x && x <= high;
    }

    int put(int kind, int price) {
        need(in(kind, 0, 9) && in(price, 1, 9999), new IllegalArgumentException());
        need(basket.size() < 7 && given < 60, new IllegalStateException());
        known = null;
        basket.put(given, new Item(given, kind, price));
        return given++;
    }

    int takeOut(int item) {
        need(basket.containsKey(item), new NoSuchElementException());
        known = null;
        basket.remove(item);
        return basket.size();
    }

    int setCustomer(int next) {
        need(in(next, 0, 3), new IllegalArgumentException());
        known = null;
        int before = customer;
        customer = next;
        return before;
    }

    int items() {
        return basket.size();
    }

    List<Integer> numbersInBasket() {
        return new ArrayList<>(basket.keySet());
    }

    int numbersGiven() {
        return given;
    }

    int sum() {
        return basket.values().stream().mapToInt(Item::price).sum();
    }

    private int add(boolean valid, Offer offer) {
        need(valid && in(offer.limit, 1, 9) && in(offer.group, -1, 3), new IllegalArgumentException());
        need(offers.size() < 6, new IllegalStateException());
        known = null;
        offers.add(offer);
        return offers.size() - 1;
    }

    int addPercentage(int kind, int percent, int limit, int group) {
        return add(in(kind, 0, 9) && in(percent, 1, 90), new Offer('p', List.of(kind), percent, 0, limit, group));
    }

    int addFreeItem(int kind, int count, int limit, int group) {
        boolean valid = in(kind, 0, 9) && in(count, 2, 5);
        return add(valid, new Offer('f', Collections.nCopies(valid ? count : 0, kind), 0, 0, limit, group));
    }

    int addBundle(int first, int second, int third, int price, int limit, int group) {
        boolean valid = in(first, 0, 9) && in(second, 0, 9) && in(third, -1, 9) && in(price, 1, 9999);
        List<Integer> kinds = third == -1 ? List.of(first, second) : List.of(first, second, third);
        return add(valid, new Offer('b', kinds, price, 0, limit, group));
    }

    int addThreshold(int threshold, int amount, int limit, int group) {
        return add(in(threshold, 1, 9999) && in(amount, 1, 9999),
                new Offer('t', List.of(), amount, threshold, limit, group));
    }

    int left(int offer) {
        need(in(offer, 0, offers.size() - 1), new IndexOutOfBoundsException());
        return offers.get(offer).limit - used[customer][offer];
    }

    int offers() {
        return offers.size();
    }

    int bestDiscount() {
        return best().discount;
    }

    int bestByTrying() {
        need(basket.size() <= 5, new UnsupportedOperationException());
        return best().discount;
    }

    int offerOf(int item) {
        need(basket.containsKey(item), new NoSuchElementException());
        for (Use use : best().uses) {
            if (use.items.contains(item)) {
                return use.offer;
            }
        }
        return -1;
    }

    int uses(int offer) {
        need(in(offer, 0, offers.size() - 1), new IndexOutOfBoundsException());
        int count = best().thresholds.contains(offer) ? 1 : 0;
        for (Use use : best().uses) {
            count += use.offer == offer ? 1 : 0;
        }
        return count;
    }

    char reason(int offer) {
        if (uses(offer) > 0) {
            return 'u';
        }
        if (left(offer) == 0) {
            return 'l';
        }
        Offer o = offers.get(offer);
        if (o.type == 't' ? sum() < o.threshold : usesOf(offer).isEmpty()) {
            return 'c';
        }
        for (int other = 0; other < offers.size(); other++) {
            if (other != offer && o.group != -1 && offers.get(other).group == o.group && uses(other) > 0) {
                return 'g';
            }
        }
        return 'b';
    }

    int netPrice(int item) {
        need(basket.containsKey(item), new NoSuchElementException());
        return nets().get(item);
    }

    int toPay() {
        return nets().values().stream().mapToInt(x -> x).sum();
    }

    int sell() {
        need(!basket.isEmpty(), new IllegalStateException());
        int paid = toPay();
        TreeMap<Integer, Integer> nets = nets();
        for (Item item : basket.values()) {
            sales.put(item.number, new Sale(customer, item.price, nets.get(item.number)));
        }
        int[] counts = new int[offers.size()];
        for (int offer = 0; offer < counts.length; offer++) {
            counts[offer] = uses(offer);
        }
        for (int offer = 0; offer < counts.length; offer++) {
            used[customer][offer] += counts[offer];
            usesInAll += counts[offer];
        }
        basket.clear();
        known = null;
        return paid;
    }

    int giveBack(int item) {
        need(sales.containsKey(item), new NoSuchElementException());
        need(!givenBack.contains(item), new IllegalStateException());
        givenBack.add(item);
        return sales.get(item).net;
    }

    int soldTo(int item) {
        need(sales.containsKey(item), new NoSuchElementException());
        return sales.get(item).customer;
    }

    int usesInAll() {
        return usesInAll;
    }

    long turnover() {
        long sum = 0;
        for (int item : sales.keySet()) {
            sum += givenBack.contains(item) ? 0 : sales.get(item).net;
        }
        return sum;
    }

    float discountShare() {
        need(!sales.isEmpty(), new ArithmeticException());
        int prices = sales.values().stream().mapToInt(Sale::price).sum();
        return (float) (prices - netsSold()) / (float) prices;
    }

    double meanNetPrice() {
        need(!sales.isEmpty(), new ArithmeticException());
        return (double) netsSold() / (double) sales.size();
    }

    private int netsSold() {
        return sales.values().stream().mapToInt(Sale::net).sum();
    }

    // ---- the best set

    private List<Use> usesOf(int offer) {
        List<Use> uses = new ArrayList<>();
        Offer o = offers.get(offer);
        if (o.type != 't') {
            gather(offer, new ArrayList<>(basket.values()), 0, new ArrayList<>(), uses);
        }
        return uses;
    }

    private void gather(int offer, List<Item> items, int from, List<Item> chosen, List<Use> uses) {
        Offer o = offers.get(offer);
        if (chosen.size() == o.kinds.size()) {
            List<Integer> kinds = new ArrayList<>(chosen.stream().map(Item::kind).toList());
            List<Integer> wanted = new ArrayList<>(o.kinds);
            Collections.sort(kinds);
            Collections.sort(wanted);
            int sum = chosen.stream().mapToInt(Item::price).sum();
            int cheapest = chosen.stream().mapToInt(Item::price).min().orElse(0);
            int discount = o.type == 'p' ? sum * o.amount / 100 : o.type == 'f' ? cheapest : sum - o.amount;
            if (kinds.equals(wanted) && (o.type != 'b' || discount > 0)) {
                uses.add(new Use(offer, chosen.stream().map(Item::number).toList(), discount));
            }
            return;
        }
        for (int i = from; i < items.size(); i++) {
            chosen.add(items.get(i));
            gather(offer, items, i + 1, chosen, uses);
            chosen.remove(chosen.size() - 1);
        }
    }

    private Choice best() {
        if (known == null) {
            List<Use> all = new ArrayList<>();
            for (int offer = 0; offer < offers.size(); offer++) {
                all.addAll(usesOf(offer));
            }
            tryAll(all, 0, new ArrayList<>());
        }
        return known;
    }

    private void tryAll(List<Use> all, int from, List<Use> set) {
        for (int mask = 0; mask < 1 << offers.size(); mask++) {
            Choice choice = choice(set, mask);
            if (choice != null && (known == null || isBefore(choice, known))) {
                known = choice;
            }
        }
        for (int i = from; i < all.size(); i++) {
            Use use = all.get(i);
            set.add(use);
            if (isAllowed(set, List.of())) {
                tryAll(all, i + 1, set);
            }
            set.remove(set.size() - 1);
        }
    }

    private Choice choice(List<Use> set, int mask) {
        int items = set.stream().mapToInt(Use::discount).sum();
        int discount = items;
        List<Integer> thresholds = new ArrayList<>();
        for (int offer = 0; offer < offers.size(); offer++) {
            if ((mask >> offer & 1) == 1) {
                Offer o = offers.get(offer);
                if (o.type != 't' || sum() - items < o.threshold) {
                    return null;
                }
                thresholds.add(offer);
                discount += o.amount;
            }
        }
        return isAllowed(set, thresholds) ? new Choice(new ArrayList<>(set), thresholds, discount) : null;
    }

    private boolean isAllowed(List<Use> set, List<Integer> thresholds) {
        List<Integer> items = new ArrayList<>();
        int[] counts = new int[offers.size()];
        for (Use use : set) {
            counts[use.offer]++;
            for (int item : use.items) {
                if (items.contains(item)) {
                    return false;
                }
                items.add(item);
            }
        }
        for (int offer : thresholds) {
            counts[offer]++;
        }
        int[] ofGroup = new int[4];
        for (int offer = 0; offer < counts.length; offer++) {
            if (counts[offer] > left(offer)) {
                return false;
            }
            int group = offers.get(offer).group;
            if (group != -1 && counts[offer] > 0 && ++ofGroup[group] > 1) {
                return false;
            }
        }
        return true;
    }

    private boolean isBefore(Choice a, Choice b) {
        if (a.discount != b.discount) {
            return a.discount > b.discount;
        }
        List<Integer> done = new ArrayList<>();
        for (int item : basket.keySet()) {
            if (done.contains(item)) {
                continue;
            }
            Use x = useFrom(a, item);
            Use y = useFrom(b, item);
            if (x == null && y == null) {
                continue;
            }
            if (x == null || y == null) {
                return y == null;
            }
            if (x.offer != y.offer) {
                return x.offer < y.offer;
            }
            for (int i = 0; i < x.items.size(); i++) {
                if (!x.items.get(i).equals(y.items.get(i))) {
                    return x.items.get(i) < y.items.get(i);
                }
            }
            done.addAll(x.items);
        }
        for (int offer = 0; offer < offers.size(); offer++) {
            if (a.thresholds.contains(offer) != b.thresholds.contains(offer)) {
                return a.thresholds.contains(offer);
            }
        }
        return false;
    }

    private static Use useFrom(Choice choice, int item) {
        for (Use use : choice.uses) {
            if (use.items.get(0) == item) {
                return use;
            }
        }
        return null;
    }

    private TreeMap<Integer, Integer> nets() {
        TreeMap<Integer, Integer> nets = new TreeMap<>();
        for (Item item : basket.values()) {
            nets.put(item.number, item.price);
        }
        for (Use use : best().uses) {
            spread(nets, use.items, use.discount);
        }
        long thresholds = 0;
        for (int offer : best().thresholds) {
            thresholds += offers.get(offer).amount;
        }
        spread(nets, new ArrayList<>(nets.keySet()), thresholds);
        return nets;
    }

    private static void spread(TreeMap<Integer, Integer> nets, List<Integer> items, long discount) {
        long sum = items.stream().mapToLong(nets::get).sum();
        if (discount > sum) {
            discount = sum;
        }
        TreeMap<Integer, Long> gets = new TreeMap<>();
        long rest = discount;
        for (int item : items) {
            long part = sum == 0 ? 0 : discount * nets.get(item) / sum;
            gets.put(item, part);
            rest -= part;
        }
        while (rest > 0) {
            for (int item : gets.keySet()) {
                if (rest > 0 && gets.get(item) < nets.get(item)) {
                    gets.put(item, gets.get(item) + 1);
                    rest--;
                }
            }
        }
        for (int item : items) {
            nets.put(item, (int) (nets.get(item) - gets.get(item)));
        }
    }
}
