import java.util.ArrayList;
import java.util.List;

/** The document once more, written from its words with no thought of speed, to compare the class with. */
final class Model {
    static final int NONE = -1;

    private static final class Goods {
        int ofClass;
        int subsidiary;
        int quantity;
        int place = NONE;

        List<Integer> classes() {
            return subsidiary == NONE ? List.of(ofClass) : List.of(ofClass, subsidiary);
        }
    }

    private final int[][] told = new int[10][10];
    private final int[] limited = new int[10];
    private final int[] excepted = new int[10];
    private final boolean[][] barred = new boolean[10][2];
    private final List<Goods> loaded = new ArrayList<>();

    private static void range(boolean isInside) {
        if (!isInside) {
            throw new IllegalArgumentException();
        }
    }

    private static boolean isClass(int ofClass) {
        return 1 <= ofClass && ofClass <= 9;
    }

    private static boolean isPlace(int place) {
        return 0 <= place && place <= 47;
    }

    private static boolean isQuantity(int quantity) {
        return 1 <= quantity && quantity <= 10000;
    }

    private Goods get(int goods) {
        if (0 <= goods && goods < loaded.size()) {
            return loaded.get(goods);
        }
        throw new IndexOutOfBoundsException();
    }

    int setDistance(int one, int other, int distance) {
        range(isClass(one) && isClass(other) && 0 <= distance && distance <= 4);
        int before = told[one][other];
        told[one][other] = distance;
        told[other][one] = distance;
        return before;
    }

    void setQuantities(int ofClass, int ofLimited, int ofExcepted) {
        range(isClass(ofClass) && 0 <= ofLimited && ofLimited <= 10000 && 0 <= ofExcepted && ofExcepted <= ofLimited);
        limited[ofClass] = ofLimited;
        excepted[ofClass] = ofExcepted;
    }

    boolean bar(int ofClass, int deck, boolean isBarred) {
        range(isClass(ofClass) && (deck == 0 || deck == 1));
        boolean before = barred[ofClass][deck];
        barred[ofClass][deck] = isBarred;
        return before;
    }

    int distance(int place, int other) {
        range(isPlace(place) && isPlace(other));
        int greatest = 0;
        int hold = place / 12 - other / 12;
        int bay = place / 2 % 6 - other / 2 % 6;
        int deck = place % 2 - other % 2;
        greatest = place != other ? 1 : greatest;
        greatest = hold == 0 && (bay >= 3 || bay <= -3) ? 2 : greatest;
        greatest = hold == 0 && bay != 0 && deck != 0 ? 2 : greatest;
        greatest = hold == 1 || hold == -1 ? 3 : greatest;
        return hold >= 2 || hold <= -2 ? 4 : greatest;
    }

    int add(int ofClass, int subsidiary, int quantity) {
        range(isClass(ofClass) && (subsidiary == NONE || isClass(subsidiary)) && subsidiary != ofClass);
        range(isQuantity(quantity));
        if (loaded.size() == 16) {
            throw new IllegalStateException();
        }
        Goods goods = new Goods();
        goods.ofClass = ofClass;
        goods.subsidiary = subsidiary;
        goods.quantity = quantity;
        loaded.add(goods);
        return loaded.size() - 1;
    }

    int setQuantity(int goods, int quantity) {
        Goods changed = get(goods);
        range(isQuantity(quantity));
        int before = changed.quantity;
        changed.quantity = quantity;
        return before;
    }

    int put(int goods, int place) {
        Goods moved = get(goods);
        range(place == NONE || isPlace(place));
        int before = moved.place;
        moved.place = place;
        return before;
    }

    int goods() {
        return loaded.size();
    }

    int placeOf(int goods) {
        return get(goods).place;
    }

    private boolean within(Goods goods, int[] amounts) {
        for (int ofClass : goods.classes()) {
            if (goods.quantity > amounts[ofClass]) {
                return false;
            }
        }
        return true;
    }

    boolean isLimited(int goods) {
        return !isExcepted(goods) && within(get(goods), limited);
    }

    boolean isExcepted(int goods) {
        return within(get(goods), excepted);
    }

    int need(int goods, int other) {
        get(goods);
        get(other);
        range(goods != other);
        int greatest = 0;
        for (int one : get(goods).classes()) {
            for (int two : get(other).classes()) {
                greatest = Math.max(greatest, told[one][two]);
            }
        }
        if ((isLimited(goods) || isLimited(other)) && greatest > 0) {
            greatest--;
        }
        return isExcepted(goods) || isExcepted(other) ? 0 : greatest;
    }

    boolean areInBreach(int goods, int other) {
        int need = need(goods, other);
        int place = get(goods).place;
        int otherPlace = get(other).place;
        return place != NONE && otherPlace != NONE && distance(place, otherPlace) < need;
    }

    boolean isMisplaced(int goods) {
        Goods asked = get(goods);
        boolean isBarred = false;
        for (int ofClass : asked.classes()) {
            isBarred |= asked.place != NONE && barred[ofClass][asked.place % 2];
        }
        return isBarred && !isExcepted(goods);
    }

    int breaches() {
        int ends = 0;
        for (int goods = 0; goods < goods(); goods++) {
            ends += Integer.bitCount(inBreachWith(goods));
        }
        return ends / 2;
    }

    int inBreachWith(int goods) {
        get(goods);
        int found = 0;
        for (int other = 0; other < goods(); other++) {
            if (other != goods && areInBreach(goods, other)) {
                found += 1 << other;
            }
        }
        return found;
    }

    boolean isClean() {
        boolean isClean = breaches() == 0;
        for (int goods = 0; goods < goods(); goods++) {
            isClean &= !isMisplaced(goods);
        }
        return isClean;
    }

    /** Really puts them there, and back. */
    boolean canPut(int goods, int place) {
        get(goods);
        range(isPlace(place));
        int before = put(goods, place);
        boolean isFine = !isMisplaced(goods) && inBreachWith(goods) == 0;
        put(goods, before);
        return isFine;
    }

    int placeFor(int goods) {
        get(goods);
        int lowest = NONE;
        for (int place = 47; place >= 0; place--) {
            lowest = canPut(goods, place) ? place : lowest;
        }
        return lowest;
    }

    int fewest() {
        return Integer.bitCount(leaving());
    }

    /** Looks at every set of goods in the order of their numbers. */
    int leaving() {
        int[] rows = new int[goods()];
        int misplaced = 0;
        for (int goods = 0; goods < goods(); goods++) {
            rows[goods] = inBreachWith(goods);
            misplaced |= isMisplaced(goods) ? 1 << goods : 0;
        }
        int best = (1 << goods()) - 1;
        for (int set = 0; set < 1 << goods(); set++) {
            if (Integer.bitCount(set) < Integer.bitCount(best) && leavesClean(rows, misplaced, set)) {
                best = set;
            }
        }
        return best;
    }

    private static boolean leavesClean(int[] rows, int misplaced, int set) {
        if ((misplaced & ~set) != 0) {
            return false;
        }
        for (int goods = 0; goods < rows.length; goods++) {
            if ((set >> goods & 1) == 0 && (rows[goods] & ~set) != 0) {
                return false;
            }
        }
        return true;
    }
}
