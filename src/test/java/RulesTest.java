import java.util.function.Supplier;

/** Promises 1 to 5: a new object, setDistance, setQuantities, bar, distance. */
public final class RulesTest {
    private static final int[] NO_CLASSES = {0, 10, -1, Integer.MIN_VALUE, Integer.MAX_VALUE};

    private static void promise1NewObject(Due due) {
        DangerousGoods ship = new DangerousGoods();
        due.same("1: goods()", ship.goods(), 0);
        due.same("1: breaches()", ship.breaches(), 0);
        due.same("1: isClean()", ship.isClean(), true);
        due.same("1: fewest()", ship.fewest(), 0);
        due.same("1: leaving()", ship.leaving(), 0);
        due.same("1: rules", Snapshot.ofRules(ship), "000000000..".repeat(9));
        int one = ship.add(1, DangerousGoods.NONE, 1);
        due.same("1: isLimited", ship.isLimited(one), false);
        due.same("1: isExcepted", ship.isExcepted(one), false);
        due.same("1: a second object", new DangerousGoods().goods(), 0);
    }

    private static void promise2SetDistance(Due due) {
        DangerousGoods ship = new DangerousGoods();
        due.same("2: first", ship.setDistance(1, 9, 4), 0);
        due.same("2: other order", ship.setDistance(9, 1, 3), 4);
        due.same("2: first order again", ship.setDistance(1, 9, 0), 3);
        due.same("2: set to 0", ship.setDistance(1, 9, 0), 0);
        due.same("2: same class", ship.setDistance(5, 5, 2), 0);
        due.same("2: same class again", ship.setDistance(5, 5, 1), 2);
        due.same("2: a neighbour", ship.setDistance(5, 6, 0), 0);
        due.same("2: another", ship.setDistance(4, 5, 0), 0);
    }

    /** Each pair has a cell of its own: no pair may write over another one. */
    private static void promise2EachPair(Due due) {
        DangerousGoods ship = new DangerousGoods();
        for (int one = 1; one <= 9; one++) {
            for (int other = one; other <= 9; other++) {
                due.same("2: before", ship.setDistance(one, other, (3 * one + 7 * other) % 5), 0);
            }
        }
        for (int one = 1; one <= 9; one++) {
            for (int other = one; other <= 9; other++) {
                int told = (3 * one + 7 * other) % 5;
                due.same("2: kept " + one + " " + other, ship.setDistance(other, one, told), told);
            }
        }
    }

    private static void promise2Wrong(Due due) {
        DangerousGoods ship = new DangerousGoods();
        ship.setDistance(1, 1, 4);
        String before = Snapshot.ofRules(ship);
        for (int wrong : NO_CLASSES) {
            due.fails("2: one " + wrong, Due.RANGE, () -> ship.setDistance(wrong, 1, 1));
            due.fails("2: other " + wrong, Due.RANGE, () -> ship.setDistance(1, wrong, 1));
        }
        for (int wrong : new int[] {-1, 5, Integer.MIN_VALUE, Integer.MAX_VALUE}) {
            due.fails("2: distance " + wrong, Due.RANGE, () -> ship.setDistance(1, 1, wrong));
        }
        due.same("2: the rules after", Snapshot.ofRules(ship), before);
    }

    private static void promise3SetQuantities(Due due) {
        DangerousGoods ship = new DangerousGoods();
        int goods = ship.add(4, DangerousGoods.NONE, 10000);
        int others = ship.add(5, DangerousGoods.NONE, 1);
        ship.setQuantities(4, 10000, 0);
        due.same("3: limited at 10000", ship.isLimited(goods), true);
        due.same("3: another class", ship.isLimited(others), false);
        ship.setQuantities(4, 10000, 10000);
        due.same("3: excepted as limited", ship.isExcepted(goods), true);
        ship.setQuantities(4, 9999, 9999);
        due.same("3: no more excepted", ship.isExcepted(goods), false);
        due.same("3: no more limited", ship.isLimited(goods), false);
        ship.setQuantities(4, 0, 0);
        ship.setQuantities(9, 1, 1);
        ship.setQuantities(1, 1, 0);
        due.same("3: still another class", ship.isLimited(others), false);
    }

    /** Goods just within and just above both quantities, so that a change of one of them shows. */
    private static DangerousGoods shipWithQuantities() {
        DangerousGoods ship = new DangerousGoods();
        for (int quantity = 5; quantity <= 8; quantity++) {
            ship.add(1, DangerousGoods.NONE, quantity);
        }
        ship.setQuantities(1, 7, 5);
        return ship;
    }

    private static void promise3Wrong(Due due) {
        Supplier<DangerousGoods> made = RulesTest::shipWithQuantities;
        for (int wrong : NO_CLASSES) {
            due.failsAndKeeps(made, "3: class " + wrong, Due.RANGE, ship -> ship.setQuantities(wrong, 1, 1));
        }
        due.failsAndKeeps(made, "3: limited -1", Due.RANGE, ship -> ship.setQuantities(1, -1, 0));
        due.failsAndKeeps(made, "3: both -1", Due.RANGE, ship -> ship.setQuantities(1, -1, -1));
        due.failsAndKeeps(made, "3: limited 10001", Due.RANGE, ship -> ship.setQuantities(1, 10001, 0));
        due.failsAndKeeps(made, "3: excepted -1", Due.RANGE, ship -> ship.setQuantities(1, 1, -1));
        due.failsAndKeeps(made, "3: excepted above", Due.RANGE, ship -> ship.setQuantities(1, 6, 7));
        due.failsAndKeeps(made, "3: excepted above 0", Due.RANGE, ship -> ship.setQuantities(1, 0, 1));
    }

    private static void promise4Bar(Due due) {
        DangerousGoods ship = new DangerousGoods();
        due.same("4: at first", ship.bar(9, 1, true), false);
        due.same("4: again", ship.bar(9, 1, true), true);
        due.same("4: the other deck", ship.bar(9, 0, false), false);
        due.same("4: another class", ship.bar(8, 1, false), false);
        due.same("4: allowed", ship.bar(9, 1, false), true);
        due.same("4: allowed again", ship.bar(9, 1, false), false);
        due.same("4: under deck", ship.bar(1, 0, true), false);
        due.same("4: on deck", ship.bar(1, 1, true), false);
        due.same("4: under deck again", ship.bar(1, 0, false), true);
        due.same("4: on deck still", ship.bar(1, 1, false), true);
    }

    private static void promise4Wrong(Due due) {
        DangerousGoods ship = new DangerousGoods();
        ship.bar(1, 1, true);
        ship.bar(2, 0, true);
        String before = Snapshot.ofRules(ship);
        for (int wrong : NO_CLASSES) {
            due.fails("4: class " + wrong, Due.RANGE, () -> ship.bar(wrong, 0, true));
        }
        for (int wrong : new int[] {-1, 2, Integer.MIN_VALUE, Integer.MAX_VALUE}) {
            due.fails("4: deck " + wrong + " barred", Due.RANGE, () -> ship.bar(1, wrong, true));
            due.fails("4: deck " + wrong + " allowed", Due.RANGE, () -> ship.bar(1, wrong, false));
        }
        due.same("4: the rules after", Snapshot.ofRules(ship), before);
    }

    private static void promise5Distance(Due due) {
        DangerousGoods ship = new DangerousGoods();
        int[][] rows = {
            {0, 0, 0}, {47, 47, 0}, {0, 1, 1}, {0, 2, 1}, {0, 3, 2}, {1, 2, 2}, {1, 3, 1}, {0, 4, 1},
            {0, 5, 2}, {0, 6, 2}, {0, 7, 2}, {1, 7, 2}, {1, 11, 2}, {4, 10, 2}, {4, 8, 1}, {10, 11, 1},
            {11, 12, 3}, {0, 12, 3}, {12, 35, 3}, {11, 24, 4}, {0, 24, 4}, {0, 47, 4}, {12, 36, 4},
            {35, 36, 3}, {36, 47, 2}, {36, 41, 2}, {36, 40, 1},
        };
        for (int[] row : rows) {
            due.same("5: " + row[0] + " " + row[1], ship.distance(row[0], row[1]), row[2]);
            due.same("5: " + row[1] + " " + row[0], ship.distance(row[1], row[0]), row[2]);
        }
    }

    private static void promise5Wrong(Due due) {
        DangerousGoods ship = new DangerousGoods();
        for (int wrong : new int[] {-1, 48, -2, Integer.MIN_VALUE, Integer.MAX_VALUE}) {
            due.fails("5: place " + wrong, Due.RANGE, () -> ship.distance(wrong, 0));
            due.fails("5: other " + wrong, Due.RANGE, () -> ship.distance(0, wrong));
        }
    }

    public static void main(String[] args) {
        Due due = new Due();
        promise1NewObject(due);
        promise2SetDistance(due);
        promise2EachPair(due);
        promise2Wrong(due);
        promise3SetQuantities(due);
        promise3Wrong(due);
        promise4Bar(due);
        promise4Wrong(due);
        promise5Distance(due);
        promise5Wrong(due);
        due.end("RulesTest");
    }
}
