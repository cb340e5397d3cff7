/** Promises 21 and 22, fewest and leaving: each plan is asked for both. */
final class LeavingSentences {
    private static final int NONE = DangerousGoods.NONE;

    private final Sentences sentences;

    LeavingSentences(Sentences sentences) {
        this.sentences = sentences;
    }

    void tell() {
        sentences.tellAll(this::nothingToLeave, this::oneGoods, this::allAboard, this::fewGoods, this::quantities,
                this::notTheWorstFirst, this::starRoundEach, this::leastNumber, this::everyPlanOfFive);
    }

    private void same(DangerousGoods ship, String when, int leaving) {
        sentences.of(21, "Returns how many goods have to be put ashore at least so that the plan is clean.")
                .same(when, ship.fewest(), Integer.bitCount(leaving));
        sentences.of(22, "Returns the goods that are put ashore then: of all sets with as few goods that leave a "
                + "clean plan the one with the least number; bit g stands for the goods g.")
                .same(when, ship.leaving(), leaving);
    }

    /** Goods of one class each up to nine, and then from the first class again, all at one place. */
    private static DangerousGoods shipWith(int count, int place) {
        DangerousGoods ship = new DangerousGoods();
        for (int goods = 0; goods < count; goods++) {
            ship.add(1 + goods % 9, NONE, 100);
            ship.put(goods, place);
        }
        return ship;
    }

    /** A ship where goods are in breach with those that are told behind them, two numbers a pair. */
    private static DangerousGoods shipWithPairs(int count, int... pairs) {
        DangerousGoods ship = shipWith(count, 9);
        for (int pair = 0; pair < pairs.length; pair += 2) {
            ship.setDistance(1 + pairs[pair], 1 + pairs[pair + 1], 1);
        }
        return ship;
    }

    private static void barAndSeparateAll(DangerousGoods ship) {
        for (int one = 1; one <= 9; one++) {
            for (int other = one; other <= 9; other++) {
                ship.setDistance(one, other, 4);
            }
            ship.bar(one, 0, true);
            ship.bar(one, 1, true);
        }
    }

    private void nothingToLeave() {
        DangerousGoods ship = new DangerousGoods();
        same(ship, "no goods", 0);
        barAndSeparateAll(ship);
        same(ship, "no goods, all barred", 0);
        DangerousGoods ashore = shipWith(16, NONE);
        barAndSeparateAll(ashore);
        same(ashore, "all ashore", 0);
        same(shipWith(16, 0), "all aboard, clean", 0);
        DangerousGoods one = shipWith(16, NONE);
        one.setDistance(1, 1, 4);
        one.setDistance(7, 7, 4);
        one.put(15, 47);
        same(one, "one of them aboard, clean", 0);
    }

    private void oneGoods() {
        DangerousGoods ship = shipWith(1, NONE);
        barAndSeparateAll(ship);
        same(ship, "ashore", 0);
        ship.put(0, 0);
        same(ship, "misplaced", 1);
        sentences.of(21, "Returns how many goods have to be put ashore at least so that the plan is clean.")
                .same("nothing is moved", ship.placeOf(0), 0);
        for (int goods = 0; goods < 16; goods++) {
            DangerousGoods all = shipWith(16, NONE);
            barAndSeparateAll(all);
            all.put(goods, 47);
            same(all, "goods " + goods + " alone", 1 << goods);
        }
    }

    private void allAboard() {
        DangerousGoods ship = new DangerousGoods();
        ship.setDistance(1, 2, 1);
        for (int goods = 0; goods < 16; goods++) {
            ship.add(goods < 8 ? 1 : 2, NONE, 100);
            ship.put(goods, 2 * (goods % 8));
        }
        same(ship, "eight pairs", 0x00FF);
        ship.put(3, NONE);
        same(ship, "seven pairs", 0x00F7);
        ship.setDistance(2, 2, 4);
        ship.put(3, 6);
        same(ship, "all of class 2 as well", 0x7F80);
        ship.setDistance(1, 1, 4);
        ship.setDistance(1, 2, 4);
        for (int goods = 0; goods < 16; goods++) {
            ship.put(goods, 0);
        }
        same(ship, "all in breach with all", 0x7FFF);
        ship.bar(2, 0, true);
        same(ship, "half of them misplaced, too", 0xFF7F);
        ship.bar(1, 0, true);
        same(ship, "all misplaced, too", 0xFFFF);
        ship.put(15, NONE);
        same(ship, "all that are aboard", 0x7FFF);
    }

    private void fewGoods() {
        DangerousGoods ship = shipWith(3, NONE);
        ship.setDistance(1, 2, 1);
        ship.setDistance(2, 3, 1);
        ship.put(0, 0);
        ship.put(1, 0);
        same(ship, "a pair", 1);
        ship.put(2, 0);
        same(ship, "the middle one of three", 2);
        ship.setDistance(1, 3, 1);
        same(ship, "each two of three", 3);
        ship.bar(3, 0, true);
        same(ship, "each two of three, one misplaced", 5);
        ship.bar(2, 0, true);
        same(ship, "each two of three, two misplaced", 6);
        ship.bar(1, 0, true);
        same(ship, "all misplaced", 7);
        ship.put(1, NONE);
        same(ship, "one of them ashore", 5);
        DangerousGoods pair = shipWithPairs(2, 0, 1);
        pair.bar(2, 1, true);
        same(pair, "the misplaced ones of a pair", 2);
    }

    private void quantities() {
        DangerousGoods ship = shipWith(16, 0);
        barAndSeparateAll(ship);
        for (int ofClass = 1; ofClass <= 8; ofClass++) {
            ship.setQuantities(ofClass, 100, 100);
        }
        same(ship, "all excepted but goods 8", 0x0100);
        ship.bar(9, 0, false);
        same(ship, "all excepted but goods 8, these allowed", 0);
        DangerousGoods pair = shipWithPairs(2, 0, 1);
        same(pair, "neither limited", 1);
        pair.setQuantities(2, 100, 0);
        same(pair, "one limited", 0);
        pair.setDistance(1, 2, 2);
        same(pair, "one limited, need still 1", 1);
    }

    /** Goods 6 are in breach most often, and yet they can stay. */
    private void notTheWorstFirst() {
        DangerousGoods ship = shipWithPairs(7, 6, 0, 6, 1, 6, 2, 0, 3, 1, 4, 2, 5);
        same(ship, "three arms round goods 6", 7);
        ship.put(0, NONE);
        same(ship, "two arms round goods 6", 6);
    }

    /** One goods with a great number rather than all others with lesser ones. */
    private void starRoundEach() {
        for (int middle = 0; middle < 16; middle++) {
            DangerousGoods ship = new DangerousGoods();
            ship.setDistance(1, 2, 3);
            for (int goods = 0; goods < 16; goods++) {
                ship.add(goods == middle ? 1 : 2, NONE, 100);
                ship.put(goods, 13);
            }
            same(ship, "all in breach with goods " + middle, 1 << middle);
        }
    }

    private void leastNumber() {
        same(shipWithPairs(9, 0, 8), "a pair, far from one another", 1);
        same(shipWithPairs(4, 0, 3, 1, 2), "two pairs", 3);
        same(shipWithPairs(4, 0, 1, 1, 3, 3, 2, 2, 0), "goods 1 and 2, not 0 and 3", 6);
        same(shipWithPairs(5, 0, 1, 1, 2, 2, 3, 3, 4, 4, 0), "a ring of five", 11);
        same(shipWithPairs(6, 0, 1, 1, 2, 2, 3, 3, 4, 4, 5, 5, 0), "a ring of six", 21);
        DangerousGoods last = shipWith(16, NONE);
        last.setDistance(6, 7, 1);
        last.put(14, 0);
        last.put(15, 0);
        same(last, "the last two", 0x4000);
    }

    /** Each set of breaches among five goods, with each set of misplaced ones. */
    private void everyPlanOfFive() {
        for (int breaches = 0; breaches < 1 << 10; breaches++) {
            DangerousGoods ship = shipWith(5, 8);
            int[] rows = new int[5];
            int pair = 0;
            for (int one = 0; one < 5; one++) {
                for (int other = one + 1; other < 5; other++, pair++) {
                    if ((breaches >> pair & 1) == 1) {
                        ship.setDistance(1 + one, 1 + other, 1);
                        rows[one] |= 1 << other;
                        rows[other] |= 1 << one;
                    }
                }
            }
            for (int misplaced = 0; misplaced < 1 << 5; misplaced++) {
                int changed = Integer.numberOfTrailingZeros(misplaced);
                for (int goods = 0; goods <= changed && goods < 5; goods++) {
                    ship.bar(1 + goods, 0, (misplaced >> goods & 1) == 1);
                }
                same(ship, "breaches " + breaches + " misplaced " + misplaced, leastLeaving(rows, misplaced));
            }
        }
    }

    /** Looks at every set of goods in the order of their numbers. */
    private static int leastLeaving(int[] rows, int misplaced) {
        int best = (1 << rows.length) - 1;
        for (int set = 0; set < 1 << rows.length; set++) {
            boolean isClean = (misplaced & ~set) == 0;
            for (int goods = 0; goods < rows.length; goods++) {
                isClean &= (set >> goods & 1) == 1 || (rows[goods] & ~set) == 0;
            }
            if (isClean && Integer.bitCount(set) < Integer.bitCount(best)) {
                best = set;
            }
        }
        return best;
    }
}
