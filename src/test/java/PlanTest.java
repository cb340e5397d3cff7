import java.util.function.Supplier;

/** Promises 14 to 22: areInBreach, isMisplaced, breaches, inBreachWith, isClean, canPut, placeFor, fewest, leaving. */
public final class PlanTest {
    private static final int NONE = DangerousGoods.NONE;
    private static final int[] NO_GOODS_OF_TWO = {-1, 2, 15, 16, Integer.MIN_VALUE, Integer.MAX_VALUE};

    /** Goods of one class each, which need a distance from one another only as a test tells it. */
    private static DangerousGoods shipWith(int count) {
        DangerousGoods ship = new DangerousGoods();
        for (int goods = 0; goods < count; goods++) {
            ship.add(1 + goods % 9, NONE, 100);
        }
        return ship;
    }

    private static void promise14EachDistance(Due due) {
        int[] placeAt = {10, 8, 7, 12, 24};
        for (int need = 0; need <= 4; need++) {
            DangerousGoods ship = shipWith(2);
            ship.setDistance(1, 2, need);
            ship.put(0, 10);
            for (int distance = 0; distance <= 4; distance++) {
                ship.put(1, placeAt[distance]);
                String call = " need " + need + " distance " + distance;
                due.same("14:" + call, ship.areInBreach(0, 1), distance < need);
                due.same("14: turned" + call, ship.areInBreach(1, 0), distance < need);
                due.same("16:" + call, ship.breaches(), distance < need ? 1 : 0);
                due.same("17:" + call, ship.inBreachWith(0), distance < need ? 2 : 0);
                due.same("18:" + call, ship.isClean(), distance >= need);
            }
        }
    }

    private static void promise14Ashore(Due due) {
        DangerousGoods ship = shipWith(2);
        ship.setDistance(1, 2, 4);
        due.same("14: both ashore", ship.areInBreach(0, 1), false);
        ship.put(0, 0);
        due.same("14: second ashore", ship.areInBreach(0, 1), false);
        due.same("14: first ashore", ship.areInBreach(1, 0), false);
        ship.put(1, 0);
        due.same("14: both aboard", ship.areInBreach(0, 1), true);
        ship.setQuantities(1, 100, 100);
        due.same("14: one excepted", ship.areInBreach(0, 1), false);
    }

    private static void promise14Wrong(Due due) {
        DangerousGoods ship = shipWith(2);
        for (int wrong : NO_GOODS_OF_TWO) {
            due.fails("14: goods " + wrong, Due.NO_GOODS, () -> ship.areInBreach(wrong, 0));
            due.fails("14: other " + wrong, Due.NO_GOODS, () -> ship.areInBreach(0, wrong));
            due.fails("14: both " + wrong, Due.NO_GOODS, () -> ship.areInBreach(wrong, wrong));
        }
        due.fails("14: 1 twice", Due.RANGE, () -> ship.areInBreach(1, 1));
    }

    private static void promise15IsMisplaced(Due due) {
        DangerousGoods ship = new DangerousGoods();
        int goods = ship.add(3, 7, 100);
        ship.bar(3, 1, true);
        ship.bar(7, 0, true);
        due.same("15: ashore", ship.isMisplaced(goods), false);
        ship.put(goods, 46);
        due.same("15: subsidiary under deck", ship.isMisplaced(goods), true);
        ship.put(goods, 47);
        due.same("15: class on deck", ship.isMisplaced(goods), true);
        ship.bar(3, 1, false);
        due.same("15: allowed again", ship.isMisplaced(goods), false);
        ship.bar(4, 1, true);
        due.same("15: another class barred", ship.isMisplaced(goods), false);
        ship.put(goods, 0);
        ship.setQuantities(3, 100, 100);
        ship.setQuantities(7, 100, 99);
        due.same("15: limited", ship.isMisplaced(goods), true);
        ship.setQuantities(7, 100, 100);
        due.same("15: excepted", ship.isMisplaced(goods), false);
    }

    private static void promise15To17Wrong(Due due) {
        DangerousGoods ship = shipWith(2);
        for (int wrong : NO_GOODS_OF_TWO) {
            due.fails("15: goods " + wrong, Due.NO_GOODS, () -> ship.isMisplaced(wrong));
            due.fails("17: goods " + wrong, Due.NO_GOODS, () -> ship.inBreachWith(wrong));
        }
    }

    private static void promise16And17(Due due) {
        DangerousGoods ship = new DangerousGoods();
        ship.setDistance(5, 5, 1);
        for (int goods = 0; goods < 16; goods++) {
            ship.add(5, NONE, 100);
            ship.put(goods, 20);
            due.same("16: all of " + (goods + 1), ship.breaches(), goods * (goods + 1) / 2);
        }
        due.same("17: of 0", ship.inBreachWith(0), 0xFFFE);
        due.same("17: of 15", ship.inBreachWith(15), 0x7FFF);
        ship.put(4, NONE);
        due.same("17: of goods ashore", ship.inBreachWith(4), 0);
        due.same("17: without goods ashore", ship.inBreachWith(15), 0x7FEF);
        due.same("16: without goods ashore", ship.breaches(), 105);
    }

    private static void promise18IsClean(Due due) {
        DangerousGoods ship = shipWith(2);
        ship.setDistance(1, 2, 1);
        ship.put(0, 0);
        due.same("18: one aboard", ship.isClean(), true);
        ship.put(1, 0);
        due.same("18: a breach", ship.isClean(), false);
        ship.put(1, 1);
        due.same("18: no breach", ship.isClean(), true);
        ship.bar(2, 1, true);
        due.same("18: misplaced", ship.isClean(), false);
        ship.put(1, NONE);
        due.same("18: the misplaced ashore", ship.isClean(), true);
        ship.bar(1, 0, true);
        due.same("18: goods 0 alone, misplaced", ship.isClean(), false);
    }

    private static void promise19CanPut(Due due) {
        DangerousGoods ship = shipWith(3);
        ship.setDistance(1, 2, 2);
        ship.setDistance(2, 3, 4);
        ship.bar(1, 0, true);
        ship.put(1, 0);
        due.same("19: barred deck", ship.canPut(0, 6), false);
        due.same("19: allowed deck", ship.canPut(0, 7), true);
        due.same("19: too near", ship.canPut(0, 1), false);
        due.same("19: just far enough", ship.canPut(0, 3), true);
        ship.put(2, 0);
        due.same("19: a breach of others does not count", ship.canPut(0, 3), true);
        due.same("19: nothing is moved", ship.placeOf(0), NONE);
        ship.put(0, 1);
        due.same("19: its own place, dirty", ship.canPut(0, 1), false);
        due.same("19: away from its place", ship.canPut(0, 47), true);
        ship.setDistance(1, 1, 4);
        due.same("19: not in breach with itself", ship.canPut(0, 3), true);
        ship.setQuantities(1, 100, 100);
        due.same("19: excepted", ship.canPut(0, 0), true);
    }

    private static void promise19And20Wrong(Due due) {
        Supplier<DangerousGoods> two = () -> shipWith(2);
        for (int wrong : NO_GOODS_OF_TWO) {
            due.failsAndKeeps(two, "19: goods " + wrong, Due.NO_GOODS, ship -> ship.canPut(wrong, 0));
            due.failsAndKeeps(two, "19: all wrong " + wrong, Due.NO_GOODS, ship -> ship.canPut(wrong, 48));
            due.failsAndKeeps(two, "20: goods " + wrong, Due.NO_GOODS, ship -> ship.placeFor(wrong));
        }
        for (int wrong : new int[] {NONE, 48, Integer.MIN_VALUE, Integer.MAX_VALUE}) {
            due.failsAndKeeps(two, "19: place " + wrong, Due.RANGE, ship -> ship.canPut(0, wrong));
        }
    }

    private static void promise20PlaceFor(Due due) {
        int[] lowest = {0, 1, 3, 12, 24};
        for (int need = 0; need <= 4; need++) {
            DangerousGoods ship = shipWith(2);
            ship.setDistance(1, 2, need);
            ship.put(0, 0);
            due.same("20: need " + need, ship.placeFor(1), lowest[need]);
            due.same("20: of goods ashore they need nothing", ship.placeFor(0), 0);
        }
        DangerousGoods ship = shipWith(2);
        ship.bar(2, 0, true);
        due.same("20: on deck", ship.placeFor(1), 1);
        ship.bar(2, 1, true);
        due.same("20: nowhere", ship.placeFor(1), NONE);
        due.same("20: nothing is moved", ship.placeOf(1), NONE);
    }

    private static void promise20Last(Due due) {
        DangerousGoods ship = shipWith(3);
        ship.setDistance(1, 2, 4);
        ship.setDistance(2, 3, 2);
        ship.bar(2, 0, true);
        ship.put(0, 12);
        ship.put(2, 36);
        due.same("20: the first far enough", ship.placeFor(1), 39);
        ship.put(2, 46);
        due.same("20: the first of the hold", ship.placeFor(1), 37);
        ship.put(1, 37);
        due.same("20: its own place", ship.placeFor(1), 37);
        DangerousGoods between = shipWith(3);
        between.setDistance(1, 2, 4);
        between.setDistance(1, 3, 4);
        between.put(1, 12);
        due.same("20: the last hold", between.placeFor(0), 36);
        between.put(2, 24);
        due.same("20: far enough only behind the last hold", between.placeFor(0), NONE);
        DangerousGoods full = shipWith(3);
        full.setDistance(1, 2, 4);
        full.setDistance(2, 3, 1);
        full.bar(2, 0, true);
        full.put(0, 12);
        for (int place = 37; place < 47; place += 2) {
            full.put(full.add(3, NONE, 100), place);
        }
        due.same("20: the last place", full.placeFor(1), 47);
        full.put(2, 47);
        due.same("20: not even the last", full.placeFor(1), NONE);
    }

    private static void due(Due due, DangerousGoods ship, String when, int leaving) {
        due.same("21: fewest " + when, ship.fewest(), Integer.bitCount(leaving));
        due.same("22: leaving " + when, ship.leaving(), leaving);
    }

    private static void promise21And22Small(Due due) {
        DangerousGoods ship = shipWith(3);
        ship.setDistance(1, 2, 1);
        ship.setDistance(2, 3, 1);
        due(due, ship, "all ashore", 0);
        ship.put(0, 0);
        ship.put(1, 0);
        due(due, ship, "a pair", 1);
        ship.put(2, 0);
        due(due, ship, "the middle one of a path", 2);
        ship.setDistance(1, 3, 1);
        due(due, ship, "a triangle", 3);
        ship.bar(3, 0, true);
        due(due, ship, "a triangle, one misplaced", 5);
        ship.bar(2, 0, true);
        due(due, ship, "a triangle, two misplaced", 6);
        ship.bar(1, 0, true);
        due(due, ship, "all misplaced", 7);
        ship.put(1, NONE);
        due(due, ship, "one of them ashore", 5);
        due.same("21: nothing is moved", ship.placeOf(0), 0);
    }

    private static void promise21And22Large(Due due) {
        DangerousGoods ship = new DangerousGoods();
        ship.setDistance(1, 2, 1);
        for (int goods = 0; goods < 16; goods++) {
            ship.add(goods < 8 ? 1 : 2, NONE, 100);
            ship.put(goods, 2 * (goods % 8));
        }
        due(due, ship, "eight pairs", 0x00FF);
        ship.put(3, NONE);
        due(due, ship, "seven pairs", 0x00F7);
        ship.setDistance(2, 2, 4);
        ship.put(3, 6);
        due(due, ship, "all of class 2 as well", 0x7F80);
        ship.setDistance(1, 1, 4);
        ship.setDistance(1, 2, 4);
        for (int goods = 0; goods < 16; goods++) {
            ship.put(goods, 0);
        }
        due(due, ship, "all against all", 0x7FFF);
        ship.bar(1, 0, true);
        ship.bar(2, 0, true);
        due(due, ship, "all misplaced", 0xFFFF);
    }

    /** Goods 6 have most breaches, and yet they can stay: a search that takes the worst first lets four leave. */
    private static void promise21And22NotGreedy(Due due) {
        DangerousGoods ship = shipWith(7);
        for (int middle = 1; middle <= 3; middle++) {
            ship.setDistance(7, middle, 1);
            ship.setDistance(middle, middle + 3, 1);
        }
        for (int goods = 0; goods < 7; goods++) {
            ship.put(goods, 9);
        }
        due.same("17: the worst", ship.inBreachWith(6), 7);
        due(due, ship, "a star of three paths", 7);
        ship.put(0, NONE);
        due(due, ship, "a star of two paths", 6);
    }

    /** The goods in the middle of a star leave alone, whatever their number is. */
    private static void promise21And22Star(Due due) {
        for (int middle = 0; middle < 16; middle++) {
            DangerousGoods ship = new DangerousGoods();
            ship.setDistance(1, 2, 3);
            for (int goods = 0; goods < 16; goods++) {
                ship.add(goods == middle ? 1 : 2, NONE, 100);
                ship.put(goods, 13);
            }
            due(due, ship, "a star round " + middle, 1 << middle);
        }
    }

    public static void main(String[] args) {
        Due due = new Due();
        promise14EachDistance(due);
        promise14Ashore(due);
        promise14Wrong(due);
        promise15IsMisplaced(due);
        promise15To17Wrong(due);
        promise16And17(due);
        promise18IsClean(due);
        promise19CanPut(due);
        promise19And20Wrong(due);
        promise20PlaceFor(due);
        promise20Last(due);
        promise21And22Small(due);
        promise21And22Large(due);
        promise21And22NotGreedy(due);
        promise21And22Star(due);
        due.end("PlanTest");
    }
}
