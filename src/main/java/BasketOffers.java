import java.util.NoSuchElementException;

/** A till that finds the best set of offers for the basket of the customer who stands at it. */
public final class BasketOffers {
    private static final int MOST_IN_BASKET = 7;
    private static final int MOST_TO_TRY = 5;
    private static final int MOST_ITEMS = 60;
    private static final int MOST_OFFERS = 6;
    private static final int CUSTOMERS = 4;
    private static final int LAST_KIND = 9;
    private static final int TOP_NUMBER = 9999;
    private static final int TOP_LIMIT = 9;
    private static final int LAST_GROUP = 3;
    private static final int NONE = -1;

    private final Basket basket;
    private final OfferBook book;
    private final Search search;
    private final Bill bill;
    private final Ledger ledger;
    private int customer;
    private boolean bestIsKnown;

    public BasketOffers() {
        basket = new Basket();
        book = new OfferBook();
        search = new Search(basket, book);
        bill = new Bill(basket, search);
        ledger = new Ledger();
    }

    // ---- basket

    public int put(int kind, int price) throws IllegalArgumentException, IllegalStateException {
        if (!isWithin(kind, 0, LAST_KIND) || !isWithin(price, 1, TOP_NUMBER)) {
            throw new IllegalArgumentException("the kind or the price is out of range");
        }
        if (!basket.hasRoom()) {
            throw new IllegalStateException("there is no room for another item");
        }
        bestIsKnown = false;
        return basket.append(kind, price);
    }

    public int takeOut(int item) throws NoSuchElementException {
        int position = basket.positionOf(item);
        if (position == NONE) {
            throw new NoSuchElementException("the item is not in the basket");
        }
        bestIsKnown = false;
        basket.remove(position);
        return basket.size();
    }

    public int setCustomer(int customer) throws IllegalArgumentException {
        if (!isWithin(customer, 0, CUSTOMERS - 1)) {
            throw new IllegalArgumentException("there is no such customer");
        }
        int before = this.customer;
        bestIsKnown = false;
        this.customer = customer;
        return before;
    }

    public int items() {
        return basket.size();
    }

    public int sum() {
        return basket.priceOf(basket.mask());
    }

    // ---- offers

    public int addPercentage(int kind, int percent, int limit, int group)
            throws IllegalArgumentException, IllegalStateException {
        if (!isWithin(kind, 0, LAST_KIND) || !isWithin(percent, 1, 90) || !areTerms(limit, group)) {
            throw new IllegalArgumentException("a number is out of range");
        }
        if (book.isFull()) {
            throw new IllegalStateException("there is no room for another offer");
        }
        return enter(new Percentage(kind, percent, limit, group));
    }

    public int addFreeItem(int kind, int count, int limit, int group)
            throws IllegalArgumentException, IllegalStateException {
        if (!isWithin(kind, 0, LAST_KIND) || !isWithin(count, 2, 5) || !areTerms(limit, group)) {
            throw new IllegalArgumentException("a number is out of range");
        }
        if (book.isFull()) {
            throw new IllegalStateException("there is no room for another offer");
        }
        return enter(new FreeItem(kind, count, limit, group));
    }

    public int addBundle(int first, int second, int third, int price, int limit, int group)
            throws IllegalArgumentException, IllegalStateException {
        if (!isWithin(first, 0, LAST_KIND) || !isWithin(second, 0, LAST_KIND)
                || !isWithin(third, NONE, LAST_KIND) || !isWithin(price, 1, TOP_NUMBER)
                || !areTerms(limit, group)) {
            throw new IllegalArgumentException("a number is out of range");
        }
        if (book.isFull()) {
            throw new IllegalStateException("there is no room for another offer");
        }
        return enter(new Bundle(first, second, third, price, limit, group));
    }

    public int addThreshold(int threshold, int amount, int limit, int group)
            throws IllegalArgumentException, IllegalStateException {
        if (!isWithin(threshold, 1, TOP_NUMBER) || !isWithin(amount, 1, TOP_NUMBER)
                || !areTerms(limit, group)) {
            throw new IllegalArgumentException("a number is out of range");
        }
        if (book.isFull()) {
            throw new IllegalStateException("there is no room for another offer");
        }
        return enter(new Threshold(threshold, amount, limit, group));
    }

    public int left(int offer) throws IndexOutOfBoundsException {
        if (!book.has(offer)) {
            throw new IndexOutOfBoundsException("there is no such offer");
        }
        return book.leftFor(customer, offer);
    }

    public int offers() {
        return book.size();
    }

    // ---- the best set

    public int bestDiscount() {
        findBest();
        return search.discount();
    }

    public int bestByTrying() throws UnsupportedOperationException {
        if (basket.size() > MOST_TO_TRY) {
            throw new UnsupportedOperationException("there are too many items in the basket");
        }
        findBest();
        return search.discountByTrying();
    }

    public int offerOf(int item) throws NoSuchElementException {
        int position = basket.positionOf(item);
        if (position == NONE) {
            throw new NoSuchElementException("the item is not in the basket");
        }
        findBest();
        return search.offerOn(position);
    }

    public int uses(int offer) throws IndexOutOfBoundsException {
        if (!book.has(offer)) {
            throw new IndexOutOfBoundsException("there is no such offer");
        }
        findBest();
        return search.timesOf(offer);
    }

    public char reason(int offer) throws IndexOutOfBoundsException {
        if (!book.has(offer)) {
            throw new IndexOutOfBoundsException("there is no such offer");
        }
        findBest();
        if (search.timesOf(offer) > 0) {
            return 'u';
        }
        if (book.leftFor(customer, offer) <= 0) {
            return 'l';
        }
        if (!search.isPossible(offer)) {
            return 'c';
        }
        return search.usesRivalOf(offer) ? 'g' : 'b';
    }

    public int netPrice(int item) throws NoSuchElementException {
        int position = basket.positionOf(item);
        if (position == NONE) {
            throw new NoSuchElementException("the item is not in the basket");
        }
        findBest();
        return bill.netAt(position);
    }

    public int toPay() {
        findBest();
        return bill.total();
    }

    // ---- sales

    public int sell() throws IllegalStateException {
        if (basket.size() == 0) {
            throw new IllegalStateException("the basket is empty");
        }
        findBest();
        int paid = bill.total();
        for (int position = 0; position < basket.size(); position++) {
            ledger.enterSale(basket.numberAt(position), customer, basket.priceAt(position), bill.netAt(position));
        }
        for (int offer = 0; offer < book.size(); offer++) {
            int times = search.timesOf(offer);
            book.countUses(customer, offer, times);
            ledger.countUses(times);
        }
        basket.clear();
        bestIsKnown = false;
        return paid;
    }

    public int giveBack(int item) throws NoSuchElementException, IllegalStateException {
        if (!ledger.wasSold(item)) {
            throw new NoSuchElementException("the item was never sold");
        }
        if (ledger.wasGivenBack(item)) {
            throw new IllegalStateException("the item was given back");
        }
        return ledger.enterReturn(item);
    }

    public int soldTo(int item) throws NoSuchElementException {
        if (!ledger.wasSold(item)) {
            throw new NoSuchElementException("the item was never sold");
        }
        return ledger.buyerOf(item);
    }

    public int usesInAll() {
        return ledger.usesCounted();
    }

    public long turnover() {
        return ledger.kept();
    }

    public float discountShare() throws ArithmeticException {
        int prices = ledger.pricesSold();
        if (prices <= 0) {
            throw new ArithmeticException("nothing was sold");
        }
        return (float) (prices - ledger.netsSold()) / (float) prices;
    }

    public double meanNetPrice() throws ArithmeticException {
        int count = ledger.itemsSold();
        if (count <= 0) {
            throw new ArithmeticException("nothing was sold");
        }
        return (double) ledger.netsSold() / (double) count;
    }

    private int enter(Offer offer) {
        bestIsKnown = false;
        return book.append(offer);
    }

    private void findBest() {
        if (bestIsKnown) {
            return;
        }
        search.run(customer);
        bill.write();
        bestIsKnown = true;
    }

    private static boolean areTerms(int limit, int group) {
        return isWithin(limit, 1, TOP_LIMIT) && isWithin(group, NONE, LAST_GROUP);
    }

    private static boolean isWithin(int number, int low, int high) {
        return number >= low && number <= high;
    }

    private static int at(int[] row, int index) {
        return index >= 0 && index < row.length ? row[index] : 0;
    }

    private static void setAt(int[] row, int index, int value) {
        if (index >= 0 && index < row.length) {
            row[index] = value;
        }
    }

    // Items of a basket are told as bits. The first position has the highest bit, so that of two masks
    // with as many items the greater number is the one whose items come first.
    private static int bitOf(int position) {
        return 1 << (MOST_IN_BASKET - 1 - position);
    }

    private static boolean isIn(int mask, int position) {
        return (mask >> (MOST_IN_BASKET - 1 - position) & 1) != 0;
    }

    /** The items that are in the basket, in ascending order of their numbers. */
    private static final class Basket {
        private final int[] numbers = new int[MOST_IN_BASKET];
        private final int[] kinds = new int[MOST_IN_BASKET];
        private final int[] prices = new int[MOST_IN_BASKET];
        private int size;
        private int numbersGiven;

        boolean hasRoom() {
            return size < MOST_IN_BASKET && numbersGiven < MOST_ITEMS;
        }

        int append(int kind, int price) {
            int number = numbersGiven;
            setAt(numbers, size, number);
            setAt(kinds, size, kind);
            setAt(prices, size, price);
            size++;
            numbersGiven++;
            return number;
        }

        void remove(int position) {
            for (int next = position + 1; next < size; next++) {
                setAt(numbers, next - 1, at(numbers, next));
                setAt(kinds, next - 1, at(kinds, next));
                setAt(prices, next - 1, at(prices, next));
            }
            size--;
        }

        void clear() {
            size = 0;
        }

        int size() {
            return size;
        }

        int positionOf(int number) {
            for (int position = 0; position < size; position++) {
                if (at(numbers, position) == number) {
                    return position;
                }
            }
            return NONE;
        }

        int numberAt(int position) {
            return at(numbers, position);
        }

        int priceAt(int position) {
            return at(prices, position);
        }

        int mask() {
            int mask = 0;
            for (int position = 0; position < size; position++) {
                mask |= bitOf(position);
            }
            return mask;
        }

        int priceOf(int mask) {
            int price = 0;
            for (int position = 0; position < size; position++) {
                if (isIn(mask, position)) {
                    price += at(prices, position);
                }
            }
            return price;
        }

        int cheapestOf(int mask) {
            int cheapest = TOP_NUMBER;
            for (int position = 0; position < size; position++) {
                if (isIn(mask, position)) {
                    cheapest = Math.min(cheapest, at(prices, position));
                }
            }
            return cheapest;
        }

        int countOf(int mask, int kind) {
            int count = 0;
            for (int position = 0; position < size; position++) {
                if (isIn(mask, position) && at(kinds, position) == kind) {
                    count++;
                }
            }
            return count;
        }
    }

    /** What all offers have in common. */
    private abstract static class Offer {
        private final int limit;
        private final int group;

        Offer(int limit, int group) {
            this.limit = limit;
            this.group = group;
        }

        int limit() {
            return limit;
        }

        boolean isRivalOf(Offer other) {
            return group != NONE && other != null && group == other.group;
        }

        /** How many items a use of it takes. */
        int itemsTaken() {
            return 0;
        }

        /** The discount of its use with as many items as it takes, or NONE if they are no use of it. */
        int discountOn(Basket basket, int mask) {
            return NONE;
        }

        /** What must be left of all prices that it can be used without any items; NONE if it takes items. */
        int threshold() {
            return NONE;
        }

        /** Its discount if it takes no items. */
        int amount() {
            return 0;
        }
    }

    /** A part of the price of one item. */
    private static final class Percentage extends Offer {
        private final int kind;
        private final int percent;

        Percentage(int kind, int percent, int limit, int group) {
            super(limit, group);
            this.kind = kind;
            this.percent = percent;
        }

        int itemsTaken() {
            return 1;
        }

        int discountOn(Basket basket, int mask) {
            return basket.countOf(mask, kind) == 1 ? basket.priceOf(mask) * percent / 100 : NONE;
        }
    }

    /** The cheapest of several items of a kind. */
    private static final class FreeItem extends Offer {
        private final int kind;
        private final int count;

        FreeItem(int kind, int count, int limit, int group) {
            super(limit, group);
            this.kind = kind;
            this.count = count;
        }

        int itemsTaken() {
            return count;
        }

        int discountOn(Basket basket, int mask) {
            return basket.countOf(mask, kind) == count ? basket.cheapestOf(mask) : NONE;
        }
    }

    /** Two or three items for one price. */
    private static final class Bundle extends Offer {
        private final int first;
        private final int second;
        private final int third;
        private final int ofFirst;
        private final int ofSecond;
        private final int ofThird;
        private final int price;

        Bundle(int first, int second, int third, int price, int limit, int group) {
            super(limit, group);
            this.first = first;
            this.second = second;
            this.third = third;
            this.price = price;
            int firstIsSecond = first == second ? 1 : 0;
            int firstIsThird = first == third ? 1 : 0;
            int secondIsThird = second == third ? 1 : 0;
            ofFirst = 1 + firstIsSecond + firstIsThird;
            ofSecond = 1 + firstIsSecond + secondIsThird;
            ofThird = 1 + firstIsThird + secondIsThird;
        }

        int itemsTaken() {
            return third == NONE ? 2 : 3;
        }

        int discountOn(Basket basket, int mask) {
            if (basket.countOf(mask, first) != ofFirst || basket.countOf(mask, second) != ofSecond
                    || third != NONE && basket.countOf(mask, third) != ofThird) {
                return NONE;
            }
            int discount = basket.priceOf(mask) - price;
            return discount > 0 ? discount : NONE;
        }
    }

    /** An amount off a basket that is dear enough. */
    private static final class Threshold extends Offer {
        private final int threshold;
        private final int amount;

        Threshold(int threshold, int amount, int limit, int group) {
            super(limit, group);
            this.threshold = threshold;
            this.amount = amount;
        }

        int threshold() {
            return threshold;
        }

        int amount() {
            return amount;
        }
    }

    /** The offers by their numbers, and how often each customer has used them. */
    private static final class OfferBook {
        private final Offer[] entries = new Offer[MOST_OFFERS];
        private final int[] rivals = new int[MOST_OFFERS];
        private final int[] thresholds = new int[MOST_OFFERS];
        private final int[] amounts = new int[MOST_OFFERS];
        private final int[] used = new int[CUSTOMERS * MOST_OFFERS];
        private int size;

        boolean isFull() {
            return size >= MOST_OFFERS;
        }

        int size() {
            return size;
        }

        boolean has(int offer) {
            return offer >= 0 && offer < size;
        }

        int append(Offer entry) {
            int offer = size;
            if (entry == null || offer < 0 || offer >= entries.length) {
                return NONE;
            }
            for (int other = 0; other < offer; other++) {
                if (entry.isRivalOf(entries[other])) {
                    setAt(rivals, offer, at(rivals, offer) | 1 << other);
                    setAt(rivals, other, at(rivals, other) | 1 << offer);
                }
            }
            entries[offer] = entry;
            setAt(thresholds, offer, entry.threshold());
            setAt(amounts, offer, entry.amount());
            size++;
            return offer;
        }

        /** The offer of a number, or null. */
        Offer entryOf(int offer) {
            return offer >= 0 && offer < entries.length ? entries[offer] : null;
        }

        /** The other offers of its group, as bits. */
        int rivalsOf(int offer) {
            return at(rivals, offer);
        }

        /** Whether it is a threshold offer that can be used if so much is left of all prices. */
        boolean isReachedBy(int offer, int rest) {
            int threshold = at(thresholds, offer);
            return threshold > 0 && rest >= threshold;
        }

        /** What a threshold offer takes off; other offers have none. */
        int amountOf(int offer) {
            return at(amounts, offer);
        }

        int leftFor(int customer, int offer) {
            Offer entry = entryOf(offer);
            return entry == null ? 0 : entry.limit() - at(used, customer * MOST_OFFERS + offer);
        }

        void countUses(int customer, int offer, int times) {
            int index = customer * MOST_OFFERS + offer;
            setAt(used, index, at(used, index) + times);
        }
    }

    /** Every use that an offer can have with the items of the basket. */
    private static final class UseList {
        // No offer has more uses than there are ways to choose 3 of 7 items.
        private static final int MOST_USES = MOST_OFFERS * 35;

        private final int[] offers = new int[MOST_USES];
        private final int[] masks = new int[MOST_USES];
        private final int[] discounts = new int[MOST_USES];
        private final int[] starts = new int[MOST_IN_BASKET + 1];
        private int size;

        /** Lists the uses in the order in which the best set prefers them. */
        void fill(Basket basket, OfferBook book, int customer) {
            size = 0;
            for (int position = 0; position < basket.size(); position++) {
                setAt(starts, position, size);
                for (int offer = 0; offer < book.size(); offer++) {
                    if (book.leftFor(customer, offer) > 0) {
                        addUses(offer, book.entryOf(offer), basket, position);
                    }
                }
            }
            for (int position = basket.size(); position <= MOST_IN_BASKET; position++) {
                setAt(starts, position, size);
            }
        }

        private void addUses(int offer, Offer entry, Basket basket, int position) {
            if (entry == null) {
                return;
            }
            int lowest = bitOf(position);
            int outside = ~basket.mask();
            for (int mask = 2 * lowest - 1; mask >= lowest; mask--) {
                if ((mask & outside) == 0 && Integer.bitCount(mask) == entry.itemsTaken()) {
                    addUse(offer, mask, entry.discountOn(basket, mask));
                }
            }
        }

        private void addUse(int offer, int mask, int discount) {
            if (discount == NONE || size >= MOST_USES) {
                return;
            }
            setAt(offers, size, offer);
            setAt(masks, size, mask);
            setAt(discounts, size, discount);
            size++;
        }

        int size() {
            return size;
        }

        /** The first of the uses in which the item at a position has the lowest number. */
        int startOf(int position) {
            return at(starts, position);
        }

        int offerAt(int use) {
            return at(offers, use);
        }

        int maskAt(int use) {
            return at(masks, use);
        }

        int discountAt(int use) {
            return at(discounts, use);
        }
    }

    /** Finds the best set and keeps it. */
    private static final class Search {
        // Shares of discounts are counted in parts that uses of 1 to 5 items divide without a rest.
        private static final int PARTS = 60;

        private final Basket basket;
        private final OfferBook book;
        private final UseList list = new UseList();
        private final int[] left = new int[MOST_OFFERS];
        private final int[] byAmount = new int[MOST_OFFERS];
        private final int[] shares = new int[MOST_IN_BASKET];
        private final int[] chosen = new int[MOST_IN_BASKET];
        private final int[] best = new int[MOST_IN_BASKET];
        private int bestOffers;
        private int bestDiscount;
        private int triedDiscount;
        private int sumOfPrices;

        Search(Basket basket, OfferBook book) {
            this.basket = basket;
            this.book = book;
        }

        void run(int customer) {
            list.fill(basket, book, customer);
            for (int offer = 0; offer < MOST_OFFERS; offer++) {
                setAt(left, offer, book.leftFor(customer, offer));
            }
            sumOfPrices = basket.priceOf(basket.mask());
            sortByAmount();
            setShares();
            triedDiscount = NONE;
            bestDiscount = NONE;
            decide(0, basket.mask(), 0, 0);
        }

        private void sortByAmount() {
            for (int offer = 0; offer < MOST_OFFERS; offer++) {
                int place = offer;
                while (place > 0 && book.amountOf(at(byAmount, place - 1)) < book.amountOf(offer)) {
                    setAt(byAmount, place, at(byAmount, place - 1));
                    place--;
                }
                setAt(byAmount, place, offer);
            }
        }

        /** If each item of a use has an even share of its discount, no item can have more than this. */
        private void setShares() {
            for (int position = 0; position < MOST_IN_BASKET; position++) {
                setAt(shares, position, 0);
            }
            for (int use = 0; use < list.size(); use++) {
                int count = Integer.bitCount(list.maskAt(use));
                int share = count > 0 ? list.discountAt(use) * PARTS / count : 0;
                for (int position = 0; position < MOST_IN_BASKET; position++) {
                    if (isIn(list.maskAt(use), position)) {
                        setAt(shares, position, Math.max(share, at(shares, position)));
                    }
                }
            }
        }

        // The first set that is found with the greatest discount is the best one, because the uses are
        // tried in the order in which it prefers them; a set that is only as good must not replace it.
        private void decide(int position, int free, int discount, int taken) {
            int offers = withThresholds(taken, discount);
            int sure = discount + amountOf(offers);
            if (sure + mostOn(free) <= bestDiscount) {
                return;
            }
            if (position >= MOST_IN_BASKET) {
                keep(sure, offers);
                return;
            }
            if (isIn(free, position)) {
                int end = list.startOf(position + 1);
                for (int use = list.startOf(position); use < end; use++) {
                    if (fits(use, free, taken)) {
                        setAt(chosen, position, use);
                        change(use, -1);
                        decide(position + 1, free & ~list.maskAt(use), discount + list.discountAt(use),
                                taken | 1 << list.offerAt(use));
                        change(use, 1);
                    }
                }
            }
            setAt(chosen, position, NONE);
            decide(position + 1, free & ~bitOf(position), discount, taken);
        }

        /** No uses of free items have a greater discount than this. */
        private int mostOn(int free) {
            int parts = 0;
            for (int position = 0; position < MOST_IN_BASKET; position++) {
                if (isIn(free, position)) {
                    parts += at(shares, position);
                }
            }
            return parts / PARTS;
        }

        private boolean fits(int use, int free, int taken) {
            int offer = list.offerAt(use);
            return (list.maskAt(use) & ~free) == 0 && at(left, offer) > 0 && (book.rivalsOf(offer) & taken) == 0;
        }

        private void change(int use, int times) {
            int offer = list.offerAt(use);
            setAt(left, offer, at(left, offer) + times);
        }

        private void keep(int discount, int offers) {
            bestDiscount = discount;
            bestOffers = offers;
            for (int position = 0; position < MOST_IN_BASKET; position++) {
                setAt(best, position, at(chosen, position));
            }
        }

        /** The offers that are taken and the best threshold offers beside them. */
        private int withThresholds(int taken, int discount) {
            int all = taken;
            for (int place = 0; place < MOST_OFFERS; place++) {
                int offer = at(byAmount, place);
                if (allowsThreshold(offer, all, discount)) {
                    all |= 1 << offer;
                }
            }
            return all;
        }

        private boolean allowsThreshold(int offer, int taken, int discount) {
            return at(left, offer) > 0 && (book.rivalsOf(offer) & taken) == 0
                    && book.isReachedBy(offer, sumOfPrices - discount);
        }

        private int amountOf(int offers) {
            int amount = 0;
            for (int offer = 0; offer < MOST_OFFERS; offer++) {
                if ((offers & 1 << offer) != 0) {
                    amount += book.amountOf(offer);
                }
            }
            return amount;
        }

        /** The greatest discount of all sets, none of them left out. */
        int discountByTrying() {
            if (triedDiscount == NONE) {
                triedDiscount = mostByTrying(0, basket.mask(), 0, 0);
            }
            return triedDiscount;
        }

        private int mostByTrying(int position, int free, int discount, int taken) {
            if (position >= MOST_IN_BASKET) {
                return discount + mostOfThresholds(0, taken, discount);
            }
            int most = mostByTrying(position + 1, free & ~bitOf(position), discount, taken);
            if (isIn(free, position)) {
                int end = list.startOf(position + 1);
                for (int use = list.startOf(position); use < end; use++) {
                    if (fits(use, free, taken)) {
                        change(use, -1);
                        most = Math.max(most, mostByTrying(position + 1, free & ~list.maskAt(use),
                                discount + list.discountAt(use), taken | 1 << list.offerAt(use)));
                        change(use, 1);
                    }
                }
            }
            return most;
        }

        private int mostOfThresholds(int offer, int taken, int discount) {
            if (offer >= MOST_OFFERS) {
                return 0;
            }
            int most = mostOfThresholds(offer + 1, taken, discount);
            if (allowsThreshold(offer, taken, discount)) {
                int with = book.amountOf(offer) + mostOfThresholds(offer + 1, taken | 1 << offer, discount);
                most = Math.max(most, with);
            }
            return most;
        }

        int discount() {
            return bestDiscount;
        }

        int thresholdDiscount() {
            return amountOf(bestOffers);
        }

        /** The use of the best set in which the item at a position has the lowest number, or NONE. */
        int useFrom(int position) {
            return isWithin(position, 0, MOST_IN_BASKET - 1) ? at(best, position) : NONE;
        }

        int maskOf(int use) {
            return list.maskAt(use);
        }

        int discountOf(int use) {
            return list.discountAt(use);
        }

        int offerOn(int position) {
            for (int first = 0; first < MOST_IN_BASKET; first++) {
                int use = useFrom(first);
                if (use != NONE && isIn(list.maskAt(use), position)) {
                    return list.offerAt(use);
                }
            }
            return NONE;
        }

        int timesOf(int offer) {
            int times = 0;
            for (int first = 0; first < MOST_IN_BASKET; first++) {
                int use = useFrom(first);
                if (use != NONE && list.offerAt(use) == offer) {
                    times++;
                }
            }
            boolean asThreshold = times == 0 && (bestOffers & 1 << offer) != 0;
            return asThreshold ? 1 : times;
        }

        /** Whether there is a use of the offer with the items of the basket, whatever else is used. */
        boolean isPossible(int offer) {
            for (int use = 0; use < list.size(); use++) {
                if (list.offerAt(use) == offer) {
                    return true;
                }
            }
            return book.isReachedBy(offer, sumOfPrices);
        }

        boolean usesRivalOf(int offer) {
            return (book.rivalsOf(offer) & bestOffers) != 0;
        }
    }

    /** The net prices of the basket by the best set. */
    private static final class Bill {
        private final Basket basket;
        private final Search search;
        private final int[] nets = new int[MOST_IN_BASKET];
        private final int[] cuts = new int[MOST_IN_BASKET];

        Bill(Basket basket, Search search) {
            this.basket = basket;
            this.search = search;
        }

        void write() {
            for (int position = 0; position < MOST_IN_BASKET; position++) {
                setAt(nets, position, basket.priceAt(position));
            }
            for (int position = 0; position < basket.size(); position++) {
                int use = search.useFrom(position);
                if (use != NONE) {
                    spread(search.discountOf(use), search.maskOf(use));
                }
            }
            spread(search.thresholdDiscount(), basket.mask());
        }

        private void spread(int discount, int mask) {
            int whole = netOf(mask);
            if (whole <= 0) {
                return;
            }
            int toSpread = Math.min(discount, whole);
            int rest = toSpread;
            for (int position = 0; position < MOST_IN_BASKET; position++) {
                int cut = isIn(mask, position) ? toSpread * at(nets, position) / whole : 0;
                setAt(cuts, position, cut);
                rest -= cut;
            }
            for (int position = 0; position < MOST_IN_BASKET; position++) {
                boolean getsMore = rest > 0 && isIn(mask, position) && at(cuts, position) < at(nets, position);
                int cut = at(cuts, position) + (getsMore ? 1 : 0);
                rest -= getsMore ? 1 : 0;
                setAt(nets, position, at(nets, position) - cut);
            }
        }

        private int netOf(int mask) {
            int net = 0;
            for (int position = 0; position < MOST_IN_BASKET; position++) {
                if (isIn(mask, position)) {
                    net += at(nets, position);
                }
            }
            return net;
        }

        int netAt(int position) {
            return at(nets, position);
        }

        int total() {
            return netOf(basket.mask());
        }
    }

    /** What was sold and given back. */
    private static final class Ledger {
        private final boolean[] sold = new boolean[MOST_ITEMS];
        private final boolean[] givenBack = new boolean[MOST_ITEMS];
        private final int[] buyers = new int[MOST_ITEMS];
        private final int[] nets = new int[MOST_ITEMS];
        private int itemsSold;
        private int pricesSold;
        private int netsSold;
        private int netsGivenBack;
        private int usesCounted;

        void enterSale(int item, int customer, int price, int net) {
            if (item < 0 || item >= sold.length) {
                return;
            }
            sold[item] = true;
            setAt(buyers, item, customer);
            setAt(nets, item, net);
            itemsSold++;
            pricesSold += price;
            netsSold += net;
        }

        void countUses(int times) {
            usesCounted += times;
        }

        int enterReturn(int item) {
            if (item >= 0 && item < givenBack.length) {
                givenBack[item] = true;
                netsGivenBack += at(nets, item);
            }
            return at(nets, item);
        }

        boolean wasSold(int item) {
            return item >= 0 && item < sold.length && sold[item];
        }

        boolean wasGivenBack(int item) {
            return item >= 0 && item < givenBack.length && givenBack[item];
        }

        int buyerOf(int item) {
            return at(buyers, item);
        }

        int itemsSold() {
            return itemsSold;
        }

        int pricesSold() {
            return pricesSold;
        }

        int netsSold() {
            return netsSold;
        }

        int usesCounted() {
            return usesCounted;
        }

        long kept() {
            return (long) netsSold - netsGivenBack;
        }
    }
}
