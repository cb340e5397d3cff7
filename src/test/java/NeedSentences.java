/** Promises 11 to 13, isLimited, isExcepted, need, and the sentences of "Goods" behind them. */
final class NeedSentences {
    private static final String NO_SUCH_GOODS = "Throws `IndexOutOfBoundsException` if there are no such goods";
    private static final int NONE = DangerousGoods.NONE;

    private final Sentences sentences;
    private final Refusals refusals;

    NeedSentences(Sentences sentences, Refusals refusals) {
        this.sentences = sentences;
        this.refusals = refusals;
    }

    void tell() {
        sentences.tellAll(this::quantitiesAtFirst, this::oneClass, this::equalAndGreatestQuantities, this::twoClasses,
                this::onlyOneOfTwoClasses, this::promise11And12, this::needOfEachOfFourClasses,
                this::needWithoutSubsidiary, this::needOfSameClass, this::needOfLimitedAndExcepted, this::promise13,
                this::promise13Refused);
    }

    private Due exceptedSentence() {
        return sentences.of("Goods", "Goods are excepted, if they have no more than the excepted quantity of their "
                + "class, and of their subsidiary class, if they have one.");
    }

    private Due limitedSentence() {
        return sentences.of("Goods", "They are limited, if they are not excepted, and have no more than the limited "
                + "quantity of their class, and of their subsidiary class, if they have one.");
    }

    private Due needSentence() {
        return sentences.of("Goods", "What two goods need is the greatest distance that the table tells for one of "
                + "the classes of the first ones and one of the classes of the second ones; it is 1 less, but not "
                + "below 0, if the first ones, the second ones, or both are limited; it is 0, if the first ones, "
                + "the second ones, or both are excepted.");
    }

    private void quantitiesAtFirst() {
        Due due = sentences.of("Goods", "Each class has a limited and an excepted quantity, both 0 at first, and can "
                + "be barred from a deck, at first from none.");
        DangerousGoods ship = new DangerousGoods();
        for (int goods = 0; goods < 9; goods++) {
            ship.add(1 + goods, NONE, 1);
            due.same("isLimited " + goods, ship.isLimited(goods), false);
            due.same("isExcepted " + goods, ship.isExcepted(goods), false);
            for (int place : new int[] {0, 1, 46, 47}) {
                ship.put(goods, place);
                due.same("isMisplaced " + goods, ship.isMisplaced(goods), false);
            }
            due.same("bar under deck " + goods, ship.bar(1 + goods, 0, true), false);
            due.same("bar on deck " + goods, ship.bar(1 + goods, 1, true), false);
        }
    }

    /** Rows of a quantity and 1 where goods of it are excepted, limited. */
    private void sameRows(DangerousGoods ship, int goods, int[][] rows) {
        for (int[] row : rows) {
            ship.setQuantity(goods, row[0]);
            exceptedSentence().same(row[0] + " of goods " + goods, ship.isExcepted(goods), row[1] == 1);
            limitedSentence().same(row[0] + " of goods " + goods, ship.isLimited(goods), row[2] == 1);
        }
    }

    private void oneClass() {
        for (int ofClass = 1; ofClass <= 9; ofClass++) {
            DangerousGoods ship = new DangerousGoods();
            ship.setQuantities(ofClass, 20, 10);
            ship.add(ofClass, NONE, 1);
            sameRows(ship, 0, new int[][] {{1, 1, 0}, {9, 1, 0}, {10, 1, 0}, {11, 0, 1}, {19, 0, 1}, {20, 0, 1},
                {21, 0, 0}, {10000, 0, 0}});
        }
    }

    private void equalAndGreatestQuantities() {
        DangerousGoods ship = new DangerousGoods();
        ship.add(6, NONE, 1);
        ship.setQuantities(6, 0, 0);
        sameRows(ship, 0, new int[][] {{1, 0, 0}, {10000, 0, 0}});
        ship.setQuantities(6, 1, 0);
        sameRows(ship, 0, new int[][] {{1, 0, 1}, {2, 0, 0}});
        ship.setQuantities(6, 1, 1);
        sameRows(ship, 0, new int[][] {{1, 1, 0}, {2, 0, 0}});
        ship.setQuantities(6, 10, 10);
        sameRows(ship, 0, new int[][] {{10, 1, 0}, {11, 0, 0}});
        ship.setQuantities(6, 10000, 9999);
        sameRows(ship, 0, new int[][] {{9999, 1, 0}, {10000, 0, 1}});
        ship.setQuantities(6, 10000, 10000);
        sameRows(ship, 0, new int[][] {{1, 1, 0}, {10000, 1, 0}});
    }

    /** With a subsidiary class both classes have to allow the quantity, in either order. */
    private void twoClasses() {
        DangerousGoods ship = new DangerousGoods();
        ship.setQuantities(3, 20, 10);
        ship.setQuantities(7, 15, 5);
        ship.add(3, 7, 1);
        ship.add(7, 3, 1);
        for (int goods = 0; goods < 2; goods++) {
            sameRows(ship, goods, new int[][] {{5, 1, 0}, {6, 0, 1}, {10, 0, 1}, {11, 0, 1}, {15, 0, 1}, {16, 0, 0},
                {20, 0, 0}, {21, 0, 0}});
        }
        ship.setQuantities(7, 5, 5);
        for (int goods = 0; goods < 2; goods++) {
            sameRows(ship, goods, new int[][] {{5, 1, 0}, {6, 0, 0}, {10, 0, 0}});
        }
        ship.setQuantities(7, 10000, 0);
        for (int goods = 0; goods < 2; goods++) {
            sameRows(ship, goods, new int[][] {{1, 0, 1}, {10, 0, 1}, {20, 0, 1}, {21, 0, 0}});
        }
    }

    private void onlyOneOfTwoClasses() {
        DangerousGoods ship = new DangerousGoods();
        ship.setQuantities(9, 10000, 10000);
        ship.add(9, NONE, 1);
        ship.add(9, 1, 1);
        ship.add(1, 9, 1);
        sameRows(ship, 0, new int[][] {{1, 1, 0}, {10000, 1, 0}});
        sameRows(ship, 1, new int[][] {{1, 0, 0}, {10000, 0, 0}});
        sameRows(ship, 2, new int[][] {{1, 0, 0}, {10000, 0, 0}});
        ship.setQuantities(1, 10000, 0);
        sameRows(ship, 1, new int[][] {{1, 0, 1}, {10000, 0, 1}});
        sameRows(ship, 2, new int[][] {{1, 0, 1}, {10000, 0, 1}});
    }

    private void promise11And12() {
        Due limited = sentences.of(11, "Tells whether goods are limited.");
        Due excepted = sentences.of(12, "Tells whether goods are excepted.");
        DangerousGoods ship = new DangerousGoods();
        ship.setQuantities(1, 100, 50);
        for (int goods = 0; goods < 16; goods++) {
            ship.add(1, NONE, goods == 0 || goods == 15 ? 100 : goods == 7 ? 50 : 101);
        }
        for (int place : new int[] {NONE, 0, 47}) {
            for (int goods = 0; goods < 16; goods++) {
                ship.put(goods, place);
                limited.same("goods " + goods + " at " + place, ship.isLimited(goods), goods == 0 || goods == 15);
                excepted.same("goods " + goods + " at " + place, ship.isExcepted(goods), goods == 7);
            }
        }
        refusals.ofNoGoods(sentences.of(11, NO_SUCH_GOODS), "isLimited", (x, goods) -> x.isLimited(goods));
        refusals.ofNoGoods(sentences.of(12, NO_SUCH_GOODS), "isExcepted", (x, goods) -> x.isExcepted(goods));
    }

    private static void same(Due due, DangerousGoods ship, String when, int need) {
        due.same("need(0, 1) " + when, ship.need(0, 1), need);
        due.same("need(1, 0) " + when, ship.need(1, 0), need);
    }

    private void needOfEachOfFourClasses() {
        DangerousGoods ship = new DangerousGoods();
        ship.add(1, 2, 100);
        ship.add(3, 4, 100);
        same(needSentence(), ship, "at first", 0);
        ship.setDistance(1, 2, 4);
        ship.setDistance(3, 4, 4);
        ship.setDistance(1, 1, 4);
        ship.setDistance(4, 4, 4);
        same(needSentence(), ship, "with distances of their own classes", 0);
        int[][] pairs = {{1, 3}, {1, 4}, {2, 3}, {2, 4}};
        for (int[] greatest : pairs) {
            for (int told = 0; told <= 4; told++) {
                ship.setDistance(greatest[0], greatest[1], told);
                same(needSentence(), ship, "of " + greatest[0] + " and " + greatest[1], told);
            }
            ship.setDistance(greatest[0], greatest[1], 0);
        }
        for (int last = 0; last < 4; last++) {
            ship.setDistance(pairs[last][0], pairs[last][1], last + 1);
            same(needSentence(), ship, "the greatest of " + (last + 1), last + 1);
        }
        ship.setDistance(2, 4, 0);
        same(needSentence(), ship, "the greatest of the others", 3);
    }

    /** Of goods without subsidiary classes only one distance of the table counts. */
    private void needWithoutSubsidiary() {
        for (int one = 1; one <= 9; one++) {
            for (int other = 1; other <= 9; other++) {
                DangerousGoods ship = new DangerousGoods();
                ship.add(one, NONE, 1);
                ship.add(other, NONE, 1);
                for (int cell = 0; cell < 81; cell++) {
                    ship.setDistance(1 + cell / 9, 1 + cell % 9, 4);
                }
                ship.setDistance(one, other, 1);
                same(needSentence(), ship, "of classes " + one + " and " + other, 1);
            }
        }
    }

    private void needOfSameClass() {
        DangerousGoods ship = new DangerousGoods();
        ship.setDistance(6, 6, 2);
        ship.add(6, NONE, 1);
        ship.add(5, 6, 1);
        same(needSentence(), ship, "of class 6 in both", 2);
        ship.setDistance(5, 6, 3);
        same(needSentence(), ship, "of class 6 with class 5", 3);
        ship.setDistance(5, 5, 4);
        same(needSentence(), ship, "class 5 is in one of them alone", 3);
    }

    /** Goods of 30 are neither, of 20 limited and of 10 excepted; of each two the one that needs less counts. */
    private void needOfLimitedAndExcepted() {
        int[][] needs = {{0, 1, 2, 3, 4}, {0, 0, 1, 2, 3}, {0, 0, 0, 0, 0}};
        for (int first = 0; first <= 2; first++) {
            for (int second = 0; second <= 2; second++) {
                DangerousGoods ship = new DangerousGoods();
                ship.setQuantities(1, 20, 10);
                ship.setQuantities(2, 20, 10);
                ship.add(1, NONE, 30 - 10 * first);
                ship.add(2, NONE, 30 - 10 * second);
                for (int told = 0; told <= 4; told++) {
                    ship.setDistance(2, 1, told);
                    same(needSentence(), ship, "told " + told + " kinds " + first + " and " + second,
                            needs[Math.max(first, second)][told]);
                }
            }
        }
    }

    private void promise13() {
        Due due = sentences.of(13, "Returns what two goods need.");
        Due other = sentences.of(13, "`other`: other goods");
        DangerousGoods ship = new DangerousGoods();
        for (int goods = 0; goods < 16; goods++) {
            ship.add(1 + goods % 9, NONE, 1);
        }
        ship.setDistance(1, 7, 4);
        ship.setDistance(1, 2, 3);
        other.same("the first and the last", ship.need(0, 15), 4);
        other.same("the last and the first", ship.need(15, 0), 4);
        other.same("neighbours", ship.need(0, 1), 3);
        due.same("of others", ship.need(14, 15), 0);
        ship.put(0, 0);
        due.same("one aboard", ship.need(0, 15), 4);
        ship.put(15, 47);
        due.same("far from one another", ship.need(0, 15), 4);
    }

    private void promise13Refused() {
        Due noGoods = sentences.of(13, NO_SUCH_GOODS);
        refusals.ofNoGoods(noGoods, "need of them and 0", (ship, goods) -> ship.need(goods, 0));
        refusals.ofNoGoods(noGoods, "need of them and 15", (ship, goods) -> ship.need(goods, 15));
        refusals.ofNoGoods(noGoods, "need of them and 16", (ship, goods) -> ship.need(goods, 16));
        refusals.ofNoGoods(noGoods, "need of 0 and them", (ship, goods) -> ship.need(0, goods));
        refusals.ofNoGoods(noGoods, "need of -1 and them", (ship, goods) -> ship.need(-1, goods));
        Due same = sentences.of(13, "Throws `IllegalArgumentException` if both are the same goods");
        refusals.ofGoods(same, "need of the same", Due.RANGE, (ship, goods) -> ship.need(goods, goods));
    }
}
