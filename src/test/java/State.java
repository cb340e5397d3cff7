/**
 * The state of a ship from Ship as a text. What no call tells is read by setting it, so the ship is another one
 * afterwards; and since an object is used for 512 calls at most, its rules and its goods are read from two ships.
 */
final class State {
    private State() {
    }

    static String ofRules(DangerousGoods ship) {
        StringBuilder text = new StringBuilder();
        for (int one = 1; one <= 9; one++) {
            text.append("| ");
            for (int other = one; other <= 9; other++) {
                text.append(ship.setDistance(one, other, 0));
            }
            text.append(ship.bar(one, 0, false) ? " x" : " .").append(ship.bar(one, 1, false) ? "x " : ". ");
            addQuantities(text, ship, one);
        }
        return text.toString();
    }

    /** Goods of the class just within and just above both of its quantities, so that a change of one of them shows. */
    private static void addQuantities(StringBuilder text, DangerousGoods ship, int ofClass) {
        int goods = ship.goods() < 16 ? ship.add(ofClass, Ship.NONE, 1) : ofClass - 1;
        int excepted = Ship.excepted(ofClass);
        int limited = Ship.limited(ofClass);
        for (int quantity : new int[] {excepted, excepted + 1, limited, limited + 1}) {
            ship.setQuantity(goods, quantity);
            text.append(ship.isExcepted(goods) ? 'e' : '.').append(ship.isLimited(goods) ? 'l' : '.');
        }
    }

    static String ofGoods(DangerousGoods ship) {
        StringBuilder text = new StringBuilder();
        int count = ship.goods();
        text.append(count).append(' ').append(ship.breaches()).append(' ').append(ship.isClean());
        text.append(' ').append(ship.fewest()).append(' ').append(ship.leaving());
        for (int goods = 0; goods < count; goods++) {
            text.append(" | ").append(ship.placeOf(goods)).append(' ').append(ship.isLimited(goods));
            text.append(' ').append(ship.isExcepted(goods)).append(' ').append(ship.isMisplaced(goods));
            text.append(' ').append(ship.inBreachWith(goods)).append(' ').append(ship.placeFor(goods));
        }
        for (int goods = 0; goods < count; goods++) {
            text.append(" | ").append(ship.setQuantity(goods, 10000)).append(' ').append(ship.put(goods, 0));
        }
        addClasses(text, ship, count);
        return text.toString();
    }

    /** Which goods are misplaced tells which have the one class that is barred. */
    private static void addClasses(StringBuilder text, DangerousGoods ship, int count) {
        for (int ofClass = 1; ofClass <= 9; ofClass++) {
            ship.bar(ofClass, 0, false);
            ship.setQuantities(ofClass, 0, 0);
        }
        for (int ofClass = 1; ofClass <= 9; ofClass++) {
            ship.bar(ofClass, 0, true);
            text.append(" | ");
            for (int goods = 0; goods < count; goods++) {
                text.append(ship.isMisplaced(goods) ? 'x' : '.');
            }
            ship.bar(ofClass, 0, false);
        }
    }
}
