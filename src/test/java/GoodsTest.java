import java.util.function.Supplier;

/** Promises 6 to 13: add, setQuantity, put, goods, placeOf, isLimited, isExcepted, need. */
public final class GoodsTest {
    private static final int NONE = DangerousGoods.NONE;
    private static final int[] NO_GOODS_OF_TWO = {-1, 2, 15, 16, Integer.MIN_VALUE, Integer.MAX_VALUE};

    private static final Supplier<DangerousGoods> TWO = GoodsTest::shipWithTwo;

    private static DangerousGoods shipWithTwo() {
        DangerousGoods ship = new DangerousGoods();
        ship.setDistance(1, 2, 3);
        ship.setQuantities(1, 20, 10);
        ship.add(1, NONE, 10);
        ship.add(2, 1, 10);
        ship.put(1, 5);
        return ship;
    }

    private static DangerousGoods shipWithSixteen() {
        DangerousGoods ship = new DangerousGoods();
        for (int goods = 0; goods < 16; goods++) {
            ship.add(1 + goods % 9, NONE, 1 + goods);
        }
        return ship;
    }

    private static void promise6Add(Due due) {
        DangerousGoods ship = new DangerousGoods();
        for (int goods = 0; goods < 16; goods++) {
            due.same("9: goods()", ship.goods(), goods);
            due.same("6: add", ship.add(1 + goods % 9, goods % 2 == 0 ? NONE : 1 + (goods + 1) % 9, 1), goods);
            due.same("6: ashore", ship.placeOf(goods), NONE);
        }
        due.same("9: goods() of 16", ship.goods(), 16);
    }

    private static void promise6Seventeenth(Due due) {
        Supplier<DangerousGoods> full = GoodsTest::shipWithSixteen;
        due.failsAndKeeps(full, "6: a 17th", Due.STATE, ship -> ship.add(1, NONE, 1));
        due.failsAndKeeps(full, "6: a 17th of class 0", Due.RANGE, ship -> ship.add(0, NONE, 1));
        due.failsAndKeeps(full, "6: a 17th, class twice", Due.RANGE, ship -> ship.add(1, 1, 1));
        due.failsAndKeeps(full, "6: a 17th, none of it", Due.RANGE, ship -> ship.add(1, NONE, 0));
    }

    private static void promise6Wrong(Due due) {
        for (int wrong : new int[] {0, 10, -1, -2, Integer.MIN_VALUE, Integer.MAX_VALUE}) {
            due.failsAndKeeps(TWO, "6: class " + wrong, Due.RANGE, ship -> ship.add(wrong, NONE, 1));
            if (wrong != NONE) {
                due.failsAndKeeps(TWO, "6: subsidiary " + wrong, Due.RANGE, ship -> ship.add(1, wrong, 1));
            }
        }
        due.failsAndKeeps(TWO, "6: class twice", Due.RANGE, ship -> ship.add(9, 9, 1));
        for (int wrong : new int[] {0, -1, 10001, Integer.MIN_VALUE, Integer.MAX_VALUE}) {
            due.failsAndKeeps(TWO, "6: quantity " + wrong, Due.RANGE, ship -> ship.add(1, NONE, wrong));
        }
        DangerousGoods ship = shipWithTwo();
        due.same("6: the greatest of all", ship.add(9, 8, 10000), 2);
        due.same("6: the least of all", ship.add(1, 2, 1), 3);
    }

    private static void promise7SetQuantity(Due due) {
        DangerousGoods ship = shipWithTwo();
        due.same("7: before", ship.setQuantity(0, 10000), 10);
        due.same("7: the others", ship.setQuantity(1, 1), 10);
        due.same("7: again", ship.setQuantity(0, 1), 10000);
        due.same("7: others again", ship.setQuantity(1, 1), 1);
        due.same("7: counts for isExcepted", ship.isExcepted(0), true);
    }

    private static void promise7Wrong(Due due) {
        for (int wrong : NO_GOODS_OF_TWO) {
            due.failsAndKeeps(TWO, "7: goods " + wrong, Due.NO_GOODS, ship -> ship.setQuantity(wrong, 1));
            due.failsAndKeeps(TWO, "7: all wrong " + wrong, Due.NO_GOODS, ship -> ship.setQuantity(wrong, 0));
        }
        for (int wrong : new int[] {0, -1, 10001, Integer.MIN_VALUE, Integer.MAX_VALUE}) {
            due.failsAndKeeps(TWO, "7: quantity " + wrong, Due.RANGE, ship -> ship.setQuantity(0, wrong));
        }
    }

    private static void promise8PutAnd10PlaceOf(Due due) {
        DangerousGoods ship = shipWithTwo();
        due.same("8: from ashore", ship.put(0, 47), NONE);
        due.same("10: at 47", ship.placeOf(0), 47);
        due.same("8: same place", ship.put(0, 47), 47);
        due.same("8: any number at a place", ship.put(1, 47), 5);
        due.same("10: the others", ship.placeOf(1), 47);
        due.same("8: to 0", ship.put(0, 0), 47);
        due.same("10: at 0", ship.placeOf(0), 0);
        due.same("8: ashore", ship.put(0, NONE), 0);
        due.same("10: ashore", ship.placeOf(0), NONE);
        due.same("8: ashore again", ship.put(0, NONE), NONE);
        due.same("10: the others stay", ship.placeOf(1), 47);
    }

    private static void promise8And10Wrong(Due due) {
        DangerousGoods two = shipWithTwo();
        for (int wrong : NO_GOODS_OF_TWO) {
            due.failsAndKeeps(TWO, "8: goods " + wrong, Due.NO_GOODS, ship -> ship.put(wrong, 0));
            due.failsAndKeeps(TWO, "8: all wrong " + wrong, Due.NO_GOODS, ship -> ship.put(wrong, 48));
            due.fails("10: goods " + wrong, Due.NO_GOODS, () -> two.placeOf(wrong));
        }
        for (int wrong : new int[] {-2, 48, Integer.MIN_VALUE, Integer.MAX_VALUE}) {
            due.failsAndKeeps(TWO, "8: place " + wrong, Due.RANGE, ship -> ship.put(1, wrong));
        }
    }

    private static void promise9Goods(Due due) {
        DangerousGoods ship = shipWithTwo();
        due.same("9: one ashore, one aboard", ship.goods(), 2);
        ship.put(0, 0);
        due.same("9: both aboard", ship.goods(), 2);
    }

    private static void promise11And12OneClass(Due due) {
        DangerousGoods ship = new DangerousGoods();
        ship.setQuantities(3, 20, 10);
        int goods = ship.add(3, NONE, 10);
        int[][] rows = {{1, 1, 0}, {10, 1, 0}, {11, 0, 1}, {20, 0, 1}, {21, 0, 0}, {10000, 0, 0}};
        for (int[] row : rows) {
            ship.setQuantity(goods, row[0]);
            due.same("12: isExcepted of " + row[0], ship.isExcepted(goods), row[1] == 1);
            due.same("11: isLimited of " + row[0], ship.isLimited(goods), row[2] == 1);
        }
    }

    /** With a subsidiary class both classes have to allow the quantity, in either order. */
    private static void promise11And12TwoClasses(Due due) {
        DangerousGoods ship = new DangerousGoods();
        ship.setQuantities(3, 20, 10);
        ship.setQuantities(7, 15, 5);
        int goods = ship.add(3, 7, 1);
        int turned = ship.add(7, 3, 1);
        int[][] rows = {{5, 1, 0}, {6, 0, 1}, {10, 0, 1}, {15, 0, 1}, {16, 0, 0}, {20, 0, 0}};
        for (int[] row : rows) {
            ship.setQuantity(goods, row[0]);
            ship.setQuantity(turned, row[0]);
            due.same("12: isExcepted of " + row[0], ship.isExcepted(goods), row[1] == 1);
            due.same("12: turned, of " + row[0], ship.isExcepted(turned), row[1] == 1);
            due.same("11: isLimited of " + row[0], ship.isLimited(goods), row[2] == 1);
            due.same("11: turned, of " + row[0], ship.isLimited(turned), row[2] == 1);
        }
        ship.put(goods, 3);
        due.same("11: aboard as ashore", ship.isLimited(goods), false);
    }

    private static void promise11And12Wrong(Due due) {
        DangerousGoods ship = shipWithTwo();
        for (int wrong : NO_GOODS_OF_TWO) {
            due.fails("11: goods " + wrong, Due.NO_GOODS, () -> ship.isLimited(wrong));
            due.fails("12: goods " + wrong, Due.NO_GOODS, () -> ship.isExcepted(wrong));
        }
    }

    private static void bothNeed(Due due, DangerousGoods ship, String when, int need) {
        due.same("13: need(0, 1) " + when, ship.need(0, 1), need);
        due.same("13: need(1, 0) " + when, ship.need(1, 0), need);
    }

    private static void promise13EachOfFourClasses(Due due) {
        DangerousGoods ship = new DangerousGoods();
        ship.add(1, 2, 100);
        ship.add(3, 4, 100);
        bothNeed(due, ship, "at first", 0);
        ship.setDistance(1, 2, 4);
        ship.setDistance(3, 4, 4);
        ship.setDistance(1, 1, 4);
        bothNeed(due, ship, "with distances of their own classes", 0);
        ship.setDistance(2, 4, 1);
        bothNeed(due, ship, "subsidiary to subsidiary", 1);
        ship.setDistance(2, 3, 2);
        bothNeed(due, ship, "subsidiary to class", 2);
        ship.setDistance(1, 4, 3);
        bothNeed(due, ship, "class to subsidiary", 3);
        ship.setDistance(1, 3, 4);
        bothNeed(due, ship, "class to class", 4);
        ship.setDistance(1, 3, 0);
        bothNeed(due, ship, "class to class no more", 3);
    }

    private static void promise13SameClass(Due due) {
        DangerousGoods ship = new DangerousGoods();
        ship.setDistance(6, 6, 2);
        ship.add(6, NONE, 1);
        ship.add(5, 6, 1);
        bothNeed(due, ship, "of class 6 in both", 2);
    }

    private static void tellAll(DangerousGoods ship, int distance) {
        for (int one = 1; one <= 9; one++) {
            for (int other = one; other <= 9; other++) {
                ship.setDistance(one, other, distance);
            }
        }
    }

    /** Of two goods without subsidiary classes only one distance of the table counts. */
    private static void promise13NoSubsidiary(Due due) {
        for (int one = 1; one <= 9; one++) {
            for (int other = 1; other <= 9; other++) {
                DangerousGoods ship = new DangerousGoods();
                ship.add(one, NONE, 1);
                ship.add(other, NONE, 1);
                tellAll(ship, 4);
                ship.setDistance(one, other, 1);
                bothNeed(due, ship, "of classes " + one + " and " + other, 1);
            }
        }
    }

    private static void promise13Quantities(Due due) {
        DangerousGoods ship = new DangerousGoods();
        ship.setDistance(1, 2, 3);
        ship.add(1, NONE, 10);
        ship.add(2, NONE, 10);
        ship.setQuantities(1, 10, 0);
        bothNeed(due, ship, "one limited", 2);
        ship.setQuantities(2, 10, 0);
        bothNeed(due, ship, "both limited", 2);
        ship.setDistance(1, 2, 1);
        bothNeed(due, ship, "both limited, told 1", 0);
        ship.setDistance(1, 2, 0);
        bothNeed(due, ship, "both limited, told 0", 0);
        ship.setDistance(1, 2, 4);
        ship.setQuantities(2, 10, 10);
        bothNeed(due, ship, "one limited, one excepted", 0);
        ship.setQuantities(1, 0, 0);
        bothNeed(due, ship, "one excepted", 0);
        ship.setQuantity(1, 11);
        bothNeed(due, ship, "neither", 4);
        ship.setQuantity(1, 10);
        ship.setQuantities(1, 10, 10);
        bothNeed(due, ship, "both excepted", 0);
    }

    private static void promise13Wrong(Due due) {
        DangerousGoods ship = shipWithTwo();
        for (int wrong : NO_GOODS_OF_TWO) {
            due.fails("13: goods " + wrong, Due.NO_GOODS, () -> ship.need(wrong, 0));
            due.fails("13: other " + wrong, Due.NO_GOODS, () -> ship.need(0, wrong));
            due.fails("13: both " + wrong, Due.NO_GOODS, () -> ship.need(wrong, wrong));
        }
        due.fails("13: 0 twice", Due.RANGE, () -> ship.need(0, 0));
        due.fails("13: 1 twice", Due.RANGE, () -> ship.need(1, 1));
    }

    public static void main(String[] args) {
        Due due = new Due();
        promise6Add(due);
        promise6Seventeenth(due);
        promise6Wrong(due);
        promise7SetQuantity(due);
        promise7Wrong(due);
        promise8PutAnd10PlaceOf(due);
        promise8And10Wrong(due);
        promise9Goods(due);
        promise11And12OneClass(due);
        promise11And12TwoClasses(due);
        promise11And12Wrong(due);
        promise13EachOfFourClasses(due);
        promise13SameClass(due);
        promise13NoSubsidiary(due);
        promise13Quantities(due);
        promise13Wrong(due);
        due.end("GoodsTest");
    }
}
