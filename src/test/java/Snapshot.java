/** The state of a ship as a text; what no call tells is read by setting it, and set back at once. */
final class Snapshot {
    private Snapshot() {
    }

    static String of(DangerousGoods ship) {
        StringBuilder text = new StringBuilder();
        int count = ship.goods();
        text.append(count).append(' ').append(ship.breaches()).append(' ').append(ship.isClean());
        text.append(' ').append(ship.fewest()).append(' ').append(ship.leaving());
        for (int goods = 0; goods < count; goods++) {
            text.append(" | ").append(ship.placeOf(goods)).append(' ').append(ship.isLimited(goods));
            text.append(' ').append(ship.isExcepted(goods)).append(' ').append(ship.isMisplaced(goods));
            text.append(' ').append(ship.inBreachWith(goods)).append(' ').append(ship.placeFor(goods));
            int quantity = ship.setQuantity(goods, 1);
            ship.setQuantity(goods, quantity);
            text.append(' ').append(quantity);
        }
        return text.toString();
    }

    /** The rules, 198 calls: too many to be read with the goods. */
    static String ofRules(DangerousGoods ship) {
        StringBuilder text = new StringBuilder();
        for (int one = 1; one <= 9; one++) {
            for (int other = 1; other <= 9; other++) {
                int before = ship.setDistance(one, other, 0);
                ship.setDistance(one, other, before);
                text.append(before);
            }
            for (int deck = 0; deck <= 1; deck++) {
                boolean before = ship.bar(one, deck, false);
                ship.bar(one, deck, before);
                text.append(before ? 'x' : '.');
            }
        }
        return text.toString();
    }
}
