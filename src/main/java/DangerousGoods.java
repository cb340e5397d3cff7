/** A dangerous goods desk for a ship; ../shared/DOC.md says what each call promises. */
public final class DangerousGoods {
    public static final int NONE = -1;

    private static final int CLASSES = 9;
    private static final int DECKS = 2;
    private static final int PLACES = 48;
    private static final int PLACES_PER_HOLD = 12;
    private static final int PLACES_PER_BAY = 2;
    private static final int GREATEST_DISTANCE = 4;
    private static final int MOST_GOODS = 16;
    private static final int MOST_QUANTITY = 10000;

    // One element more than there are classes, so that a class is its own index.
    private static final int CLASS_ROW = CLASSES + 1;

    private final int[] table = new int[CLASS_ROW * CLASS_ROW];
    private final int[] limitedQuantities = new int[CLASS_ROW];
    private final int[] exceptedQuantities = new int[CLASS_ROW];
    private final boolean[] barred = new boolean[CLASS_ROW * DECKS];

    private final int[] classes = new int[MOST_GOODS];
    private final int[] subsidiaries = new int[MOST_GOODS];
    private final int[] quantities = new int[MOST_GOODS];
    private final int[] places = new int[MOST_GOODS];
    private int count = 0;

    // Kept between calls only so that no call has to make a row of its own.
    private final int[] breachRows = new int[MOST_GOODS];

    public DangerousGoods() {
    }

    // ---- rules

    public int setDistance(int one, int other, int distance) throws IllegalArgumentException {
        checkClass(one);
        checkClass(other);
        checkRange(distance, 0, GREATEST_DISTANCE);
        int before = tableDistance(one, other);
        table[one * CLASS_ROW + other] = distance;
        table[other * CLASS_ROW + one] = distance;
        return before;
    }

    public void setQuantities(int ofClass, int limited, int excepted) throws IllegalArgumentException {
        checkClass(ofClass);
        checkRange(limited, 0, MOST_QUANTITY);
        checkRange(excepted, 0, limited);
        limitedQuantities[ofClass] = limited;
        exceptedQuantities[ofClass] = excepted;
    }

    public boolean bar(int ofClass, int deck, boolean isBarred) throws IllegalArgumentException {
        checkClass(ofClass);
        checkRange(deck, 0, DECKS - 1);
        int index = ofClass * DECKS + deck;
        boolean before = barred[index];
        barred[index] = isBarred;
        return before;
    }

    public int distance(int place, int other) throws IllegalArgumentException {
        checkPlace(place);
        checkPlace(other);
        return distanceBetween(place, other);
    }

    // ---- goods

    public int add(int ofClass, int subsidiary, int quantity)
            throws IllegalArgumentException, IllegalStateException {
        checkClass(ofClass);
        if (subsidiary != NONE) {
            checkSubsidiary(subsidiary, ofClass);
        }
        checkQuantity(quantity);
        if (count >= MOST_GOODS) {
            throw new IllegalStateException("there are 16 goods already");
        }
        int added = count;
        classes[added] = ofClass;
        subsidiaries[added] = subsidiary;
        quantities[added] = quantity;
        places[added] = NONE;
        count = added + 1;
        return added;
    }

    public int setQuantity(int goods, int quantity) throws IndexOutOfBoundsException, IllegalArgumentException {
        checkGoods(goods);
        checkQuantity(quantity);
        int before = quantities[goods];
        quantities[goods] = quantity;
        return before;
    }

    public int put(int goods, int place) throws IndexOutOfBoundsException, IllegalArgumentException {
        checkGoods(goods);
        if (place != NONE) {
            checkPlace(place);
        }
        int before = places[goods];
        places[goods] = place;
        return before;
    }

    public int goods() {
        return count;
    }

    public int placeOf(int goods) throws IndexOutOfBoundsException {
        checkGoods(goods);
        return places[goods];
    }

    public boolean isLimited(int goods) throws IndexOutOfBoundsException {
        checkGoods(goods);
        return areLimited(goods);
    }

    public boolean isExcepted(int goods) throws IndexOutOfBoundsException {
        checkGoods(goods);
        return areExcepted(goods);
    }

    public int need(int goods, int other) throws IndexOutOfBoundsException, IllegalArgumentException {
        checkPair(goods, other);
        return needOf(goods, other);
    }

    // ---- the plan

    public boolean areInBreach(int goods, int other) throws IndexOutOfBoundsException, IllegalArgumentException {
        checkPair(goods, other);
        return wouldBreach(goods, places[goods], other);
    }

    public boolean isMisplaced(int goods) throws IndexOutOfBoundsException {
        checkGoods(goods);
        return wouldBeMisplaced(goods, places[goods]);
    }

    public int breaches() {
        int pairs = 0;
        for (int goods = 0; goods < count; goods++) {
            for (int other = goods + 1; other < count; other++) {
                if (wouldBreach(goods, places[goods], other)) {
                    pairs++;
                }
            }
        }
        return pairs;
    }

    public int inBreachWith(int goods) throws IndexOutOfBoundsException {
        checkGoods(goods);
        return breachesAt(goods, places[goods]);
    }

    public boolean isClean() {
        for (int goods = 0; goods < count; goods++) {
            if (!wouldBeClean(goods, places[goods])) {
                return false;
            }
        }
        return true;
    }

    public boolean canPut(int goods, int place) throws IndexOutOfBoundsException, IllegalArgumentException {
        checkGoods(goods);
        checkPlace(place);
        return wouldBeClean(goods, place);
    }

    public int placeFor(int goods) throws IndexOutOfBoundsException {
        checkGoods(goods);
        for (int place = 0; place < PLACES; place++) {
            if (wouldBeClean(goods, place)) {
                return place;
            }
        }
        return NONE;
    }

    public int fewest() {
        return Integer.bitCount(leastLeaving());
    }

    public int leaving() {
        return leastLeaving();
    }

    // ---- what the calls refuse

    private static void checkRange(int value, int least, int greatest) {
        if (value < least || value > greatest) {
            throw new IllegalArgumentException("out of range");
        }
    }

    private static void checkClass(int ofClass) {
        checkRange(ofClass, 1, CLASSES);
    }

    private static void checkSubsidiary(int subsidiary, int ofClass) {
        checkClass(subsidiary);
        if (subsidiary == ofClass) {
            throw new IllegalArgumentException("the subsidiary class is the class itself");
        }
    }

    private static void checkPlace(int place) {
        checkRange(place, 0, PLACES - 1);
    }

    private static void checkQuantity(int quantity) {
        checkRange(quantity, 1, MOST_QUANTITY);
    }

    private void checkGoods(int goods) {
        if (goods < 0 || goods >= count) {
            throw new IndexOutOfBoundsException("no such goods");
        }
    }

    private void checkPair(int goods, int other) {
        checkGoods(goods);
        checkGoods(other);
        if (goods == other) {
            throw new IllegalArgumentException("both are the same goods");
        }
    }

    // ---- distances

    private static int holdOf(int place) {
        return place / PLACES_PER_HOLD;
    }

    private static int bayOf(int place) {
        return place % PLACES_PER_HOLD / PLACES_PER_BAY;
    }

    private static int deckOf(int place) {
        return place % PLACES_PER_BAY;
    }

    private static int distanceBetween(int place, int other) {
        int holds = Math.abs(holdOf(place) - holdOf(other));
        if (holds >= 2) {
            return 4;
        }
        if (holds == 1) {
            return 3;
        }
        int bays = Math.abs(bayOf(place) - bayOf(other));
        if (bays >= 3 || (bays > 0 && deckOf(place) != deckOf(other))) {
            return 2;
        }
        return place == other ? 0 : 1;
    }

    private int tableDistance(int one, int other) {
        if (one == NONE || other == NONE) {
            return 0;
        }
        return table[one * CLASS_ROW + other];
    }

    private int greatestTableDistance(int goods, int other) {
        int ofClass = Math.max(tableDistance(classes[goods], classes[other]),
                tableDistance(classes[goods], subsidiaries[other]));
        int ofSubsidiary = Math.max(tableDistance(subsidiaries[goods], classes[other]),
                tableDistance(subsidiaries[goods], subsidiaries[other]));
        return Math.max(ofClass, ofSubsidiary);
    }

    // ---- quantities and needs

    private boolean areWithin(int goods, int[] quantitiesOfClasses) {
        int quantity = quantities[goods];
        int subsidiary = subsidiaries[goods];
        return quantity <= quantitiesOfClasses[classes[goods]]
                && (subsidiary == NONE || quantity <= quantitiesOfClasses[subsidiary]);
    }

    private boolean areExcepted(int goods) {
        return areWithin(goods, exceptedQuantities);
    }

    private boolean areLimited(int goods) {
        return !areWithin(goods, exceptedQuantities) && areWithin(goods, limitedQuantities);
    }

    private int needOf(int goods, int other) {
        if (areExcepted(goods) || areExcepted(other)) {
            return 0;
        }
        int told = greatestTableDistance(goods, other);
        if (areLimited(goods) || areLimited(other)) {
            return Math.max(told - 1, 0);
        }
        return told;
    }

    // ---- goods at a place, theirs or another; NONE is ashore, where nothing is wrong

    private boolean wouldBreach(int goods, int place, int other) {
        if (place == NONE || places[other] == NONE) {
            return false;
        }
        return distanceBetween(place, places[other]) < needOf(goods, other);
    }

    private int breachesAt(int goods, int place) {
        int found = 0;
        for (int other = 0; other < count; other++) {
            if (other != goods && wouldBreach(goods, place, other)) {
                found |= 1 << other;
            }
        }
        return found;
    }

    private boolean isBarredFrom(int ofClass, int deck) {
        return ofClass != NONE && barred[ofClass * DECKS + deck];
    }

    private boolean wouldBeMisplaced(int goods, int place) {
        if (place == NONE || areExcepted(goods)) {
            return false;
        }
        int deck = deckOf(place);
        return isBarredFrom(classes[goods], deck) || isBarredFrom(subsidiaries[goods], deck);
    }

    private boolean wouldBeClean(int goods, int place) {
        return !wouldBeMisplaced(goods, place) && breachesAt(goods, place) == 0;
    }

    // ---- the goods that have to leave

    private int leastLeaving() {
        int aboard = 0;
        int misplaced = 0;
        for (int goods = 0; goods < count; goods++) {
            breachRows[goods] = breachesAt(goods, places[goods]);
            if (places[goods] != NONE) {
                aboard |= 1 << goods;
            }
            if (wouldBeMisplaced(goods, places[goods])) {
                misplaced |= 1 << goods;
            }
        }
        return searchLeaving(breachRows, count - 1, misplaced, aboard);
    }

    /**
     * Decides on the goods from the highest number down to 0 and tries to keep them before it lets them
     * leave: so sets come up in the order of their numbers, and of those with as few goods the first one
     * stands. What breaches with goods that are kept counts as leaving at once.
     */
    private static int searchLeaving(int[] rows, int goods, int leaving, int best) {
        if (Integer.bitCount(leaving) >= Integer.bitCount(best)) {
            return best;
        }
        if (goods < 0 || goods >= rows.length) {
            return leaving;
        }
        int bit = 1 << goods;
        if ((leaving & bit) != 0) {
            return searchLeaving(rows, goods - 1, leaving, best);
        }
        int bestKeeping = searchLeaving(rows, goods - 1, leaving | rows[goods], best);
        // If nothing that stays is in breach with these goods, it helps nobody that they leave.
        if ((rows[goods] & ~leaving) == 0) {
            return bestKeeping;
        }
        return searchLeaving(rows, goods - 1, leaving | bit, bestKeeping);
    }
}
