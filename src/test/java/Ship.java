/** Ships with the same rules, from one without goods to one with all 16 aboard. */
enum Ship {
    NO_GOODS(0, 0), ONE_ASHORE(1, 0), ONE_ABOARD(1, 1), ALL_ASHORE(16, 0), HALF_ABOARD(16, 8), ALL_ABOARD(16, 16);

    static final int NONE = DangerousGoods.NONE;

    final int count;
    private final int aboard;

    Ship(int count, int aboard) {
        this.count = count;
        this.aboard = aboard;
    }

    boolean isFull() {
        return count == 16;
    }

    static int limited(int ofClass) {
        return 1000 * ofClass;
    }

    static int excepted(int ofClass) {
        return 100 * ofClass;
    }

    /** At most 97 calls. Goods 0 to 8 have the classes 1 to 9 alone, the others a subsidiary class, too. */
    DangerousGoods make() {
        DangerousGoods ship = new DangerousGoods();
        for (int one = 1; one <= 9; one++) {
            for (int other = one; other <= 9; other++) {
                ship.setDistance(one, other, (one * other + one) % 5);
            }
            ship.setQuantities(one, limited(one), excepted(one));
        }
        ship.bar(1, 0, true);
        ship.bar(4, 1, true);
        ship.bar(9, 0, true);
        ship.bar(9, 1, true);
        for (int goods = 0; goods < count; goods++) {
            ship.add(1 + goods % 9, goods < 9 ? NONE : 1 + (goods + 4) % 9, 1 + goods * 600);
            if (goods < aboard) {
                ship.put(goods, goods * 47 / 15);
            }
        }
        return ship;
    }
}
