/** Promises 6 to 10, add, setQuantity, put, goods, placeOf, and the sentences of "Goods" behind them. */
final class GoodsSentences {
    private static final String NO_SUCH_GOODS = "Throws `IndexOutOfBoundsException` if there are no such goods";
    private static final int NONE = DangerousGoods.NONE;

    private final Sentences sentences;
    private final Refusals refusals;

    GoodsSentences(Sentences sentences, Refusals refusals) {
        this.sentences = sentences;
        this.refusals = refusals;
    }

    void tell() {
        sentences.tellAll(this::none, this::sixteenGoods, this::whatGoodsHave, this::promise6, this::promise6Ranges,
                this::promise6Refused, this::promise6Seventeenth, this::promise7, this::promise7Refused,
                this::promise8, this::promise8Refused, this::promise9, this::promise10);
    }

    private void none() {
        Due due = sentences.of("Goods", "The constants: `NONE = -1`: There is none: no subsidiary class, no place.");
        due.same("NONE", DangerousGoods.NONE, -1);
        DangerousGoods ship = new DangerousGoods();
        due.same("no subsidiary class", ship.add(1, -1, 1), 0);
        due.same("no place", ship.placeOf(0), -1);
        due.same("no place before", ship.put(0, 5), -1);
        due.same("put ashore", ship.put(0, -1), 5);
        due.same("no place again", ship.placeOf(0), -1);
        ship.bar(1, 0, true);
        ship.bar(1, 1, true);
        due.same("no place for them", ship.placeFor(0), -1);
    }

    private void sixteenGoods() {
        Due numbers = sentences.of("Goods", "Goods are numbered from 0; there are at most 16.");
        Due returns = sentences.of(6, "Returns their number.");
        Due count = sentences.of(9, "Returns how many goods there are, ashore and aboard.");
        Due seventeenth = sentences.of(6, "Throws `IllegalStateException` if there are 16");
        DangerousGoods ship = new DangerousGoods();
        for (int goods = 0; goods < 16; goods++) {
            int next = goods;
            count.same("before " + goods, ship.goods(), goods);
            numbers.fails("not yet " + goods, Due.NO_GOODS, () -> ship.placeOf(next));
            returns.same("add " + goods, ship.add(1 + goods % 9, NONE, 1), goods);
            numbers.passes("now " + goods, () -> ship.placeOf(next));
        }
        count.same("16", ship.goods(), 16);
        for (int more = 0; more < 3; more++) {
            seventeenth.fails("one more", Due.STATE, () -> ship.add(9, 8, 10000));
            numbers.fails("not even then", Due.NO_GOODS, () -> ship.placeOf(16));
        }
        count.same("still 16", ship.goods(), 16);
    }

    /** A class, a subsidiary class and a quantity, of the goods and not of others, and a place. */
    private void whatGoodsHave() {
        Due due = sentences.of("Goods", "They have a class, perhaps a subsidiary class, and a quantity, and they are "
                + "at a place or ashore.");
        DangerousGoods ship = new DangerousGoods();
        for (int goods = 0; goods < 16; goods++) {
            ship.add(1 + goods % 9, goods < 8 ? NONE : 1 + (goods + 4) % 9, 100 + goods);
            ship.put(goods, 3 * goods);
        }
        for (int barred = 1; barred <= 9; barred++) {
            ship.bar(barred, 0, true);
            ship.bar(barred, 1, true);
            for (int goods = 0; goods < 16; goods++) {
                boolean has = 1 + goods % 9 == barred || goods >= 8 && 1 + (goods + 4) % 9 == barred;
                due.same("class " + barred + " of goods " + goods, ship.isMisplaced(goods), has);
            }
            ship.bar(barred, 0, false);
            ship.bar(barred, 1, false);
        }
        for (int goods = 0; goods < 16; goods++) {
            due.same("place of goods " + goods, ship.put(goods, NONE), 3 * goods);
            due.same("quantity of goods " + goods, ship.setQuantity(goods, 1), 100 + goods);
            due.same("ashore " + goods, ship.placeOf(goods), NONE);
        }
    }

    private void promise6() {
        Due due = sentences.of(6, "Adds goods, ashore.");
        DangerousGoods ship = new DangerousGoods();
        ship.setDistance(1, 1, 4);
        ship.bar(1, 0, true);
        ship.add(1, NONE, 1);
        ship.put(0, 1);
        for (int goods = 1; goods < 16; goods++) {
            ship.add(1, NONE, 1);
            due.same("placeOf " + goods, ship.placeOf(goods), NONE);
            due.same("breaches with " + goods, ship.breaches(), 0);
            due.same("isMisplaced " + goods, ship.isMisplaced(goods), false);
        }
        due.same("those aboard stay there", ship.placeOf(0), 1);
    }

    private void promise6Ranges() {
        Due ofClass = sentences.of(6, "`ofClass`: 1 to 9");
        Due subsidiary = sentences.of(6, "`subsidiary`: 1 to 9, another class, or NONE");
        Due quantity = sentences.of(6, "`quantity`: 1 to 10000");
        DangerousGoods ship = new DangerousGoods();
        ofClass.same("the least", ship.add(1, 9, 100), 0);
        ofClass.same("the greatest", ship.add(9, 8, 100), 1);
        subsidiary.same("the least", ship.add(2, 1, 100), 2);
        subsidiary.same("the greatest", ship.add(8, 9, 100), 3);
        subsidiary.same("NONE with the least class", ship.add(1, NONE, 100), 4);
        subsidiary.same("NONE with the greatest class", ship.add(9, NONE, 100), 5);
        quantity.same("the least", ship.add(5, 4, 1), 6);
        quantity.same("the greatest", ship.add(5, NONE, 10000), 7);
        quantity.same("the least before", ship.setQuantity(6, 1), 1);
        quantity.same("the greatest before", ship.setQuantity(7, 1), 10000);
        for (int one = 1; one <= 9; one++) {
            int twice = one;
            DangerousGoods others = new DangerousGoods();
            subsidiary.fails("class " + one + " twice", Due.RANGE, () -> others.add(twice, twice, 1));
            for (int other = 1; other <= 9; other++) {
                if (other != one) {
                    subsidiary.same("classes " + one + " and " + other, others.add(one, other, 1), others.goods() - 1);
                }
            }
        }
    }

    private void promise6Refused() {
        Due ofClass = sentences.of(6, "`ofClass`: 1 to 9");
        Due subsidiary = sentences.of(6, "`subsidiary`: 1 to 9, another class, or NONE");
        Due quantity = sentences.of(6, "`quantity`: 1 to 10000");
        Due all = sentences.of(6, "Throws `IllegalArgumentException` if an argument is out of range, or subsidiary "
                + "is ofClass");
        for (int wrong : Ints.outside(1, 9)) {
            refusals.everywhere(ofClass, "class " + wrong, Due.RANGE, x -> x.add(wrong, NONE, 1));
            refusals.everywhere(ofClass, "class " + wrong + " with another", Due.RANGE, x -> x.add(wrong, 5, 1));
            refusals.everywhere(all, "class twice " + wrong, Due.RANGE, x -> x.add(wrong, wrong, 1));
        }
        for (int wrong : Ints.outsideBut(NONE, 1, 9)) {
            refusals.everywhere(subsidiary, "subsidiary " + wrong, Due.RANGE, x -> x.add(1, wrong, 1));
        }
        for (int wrong : Ints.outside(1, 10000)) {
            refusals.everywhere(quantity, "quantity " + wrong, Due.RANGE, x -> x.add(1, NONE, wrong));
            refusals.everywhere(quantity, "quantity with another " + wrong, Due.RANGE, x -> x.add(1, 2, wrong));
        }
        refusals.everywhere(all, "class 1 twice", Due.RANGE, x -> x.add(1, 1, 1));
        refusals.everywhere(all, "class 9 twice", Due.RANGE, x -> x.add(9, 9, 10000));
        refusals.everywhere(all, "class and subsidiary", Due.RANGE, x -> x.add(0, 10, 1));
        refusals.everywhere(all, "all", Due.RANGE, x -> x.add(10, -2, 0));
    }

    private void promise6Seventeenth() {
        Due due = sentences.of(6, "Throws `IllegalStateException` if there are 16");
        for (Ship kind : Ship.values()) {
            if (kind.isFull()) {
                refusals.on(kind, due, "add", Due.STATE, x -> x.add(1, NONE, 1));
                refusals.on(kind, due, "add with another", Due.STATE, x -> x.add(9, 8, 10000));
            } else {
                DangerousGoods ship = kind.make();
                for (int goods = kind.count; goods < 15; goods++) {
                    ship.add(1, NONE, 1);
                }
                due.same("the 16th on " + kind, ship.add(2, 3, 4), 15);
                due.fails("the 17th on " + kind, Due.STATE, () -> ship.add(2, 3, 4));
            }
        }
    }

    private void promise7() {
        Due due = sentences.of(7, "Changes the quantity of goods.");
        Due returns = sentences.of(7, "Returns the quantity before.");
        Due quantity = sentences.of(7, "`quantity`: 1 to 10000");
        DangerousGoods ship = new DangerousGoods();
        ship.setQuantities(2, 10, 5);
        for (int goods = 0; goods < 16; goods++) {
            ship.add(2, NONE, 20 + goods);
        }
        for (int goods : new int[] {0, 15}) {
            returns.same("as added " + goods, ship.setQuantity(goods, 10), 20 + goods);
            due.same("now limited " + goods, ship.isLimited(goods), true);
            returns.same("before " + goods, ship.setQuantity(goods, 5), 10);
            due.same("now excepted " + goods, ship.isExcepted(goods), true);
            quantity.same("the greatest " + goods, ship.setQuantity(goods, 10000), 5);
            due.same("no more limited " + goods, ship.isLimited(goods), false);
            quantity.same("the least " + goods, ship.setQuantity(goods, 1), 10000);
            returns.same("the same again " + goods, ship.setQuantity(goods, 1), 1);
        }
        due.same("not of others", ship.setQuantity(1, 1), 21);
        due.same("nor of those before the last", ship.setQuantity(14, 1), 34);
    }

    private void promise7Refused() {
        Due quantity = sentences.of(7, "`quantity`: 1 to 10000");
        Due range = sentences.of(7, "Throws `IllegalArgumentException` if quantity is out of range");
        for (int wrong : Ints.outside(1, 10000)) {
            refusals.ofGoods(range, "setQuantity " + wrong, Due.RANGE, (ship, goods) -> ship.setQuantity(goods, wrong));
        }
        for (int wrong : new int[] {0, 10001}) {
            DangerousGoods ship = Ship.ONE_ABOARD.make();
            quantity.fails("setQuantity " + wrong, Due.RANGE, () -> ship.setQuantity(0, wrong));
        }
        Due noGoods = sentences.of(7, NO_SUCH_GOODS);
        refusals.ofNoGoods(noGoods, "setQuantity 1", (ship, goods) -> ship.setQuantity(goods, 1));
        refusals.ofNoGoods(noGoods, "setQuantity 10000", (ship, goods) -> ship.setQuantity(goods, 10000));
    }

    private void promise8() {
        Due due = sentences.of(8, "Puts goods at a place, or ashore.");
        Due place = sentences.of(8, "`place`: 0 to 47, or NONE for ashore");
        Due returns = sentences.of(8, "Returns the place before, or NONE.");
        DangerousGoods ship = Ship.ALL_ASHORE.make();
        for (int goods : new int[] {0, 15}) {
            returns.same("from ashore", ship.put(goods, 47), NONE);
            place.same("the greatest", ship.placeOf(goods), 47);
            returns.same("at the same place", ship.put(goods, 47), 47);
            due.same("still there", ship.placeOf(goods), 47);
            returns.same("from 47", ship.put(goods, 0), 47);
            place.same("the least", ship.placeOf(goods), 0);
            returns.same("from 0", ship.put(goods, NONE), 0);
            place.same("NONE", ship.placeOf(goods), NONE);
            returns.same("ashore from ashore", ship.put(goods, NONE), NONE);
            due.same("still ashore", ship.placeOf(goods), NONE);
        }
        for (int goods = 1; goods < 15; goods++) {
            due.same("others stay ashore", ship.placeOf(goods), NONE);
        }
        ship.put(7, 20);
        returns.same("others at the place", ship.put(8, 20), NONE);
        due.same("where others are", ship.placeOf(8), 20);
        due.same("the others stay there", ship.placeOf(7), 20);
    }

    private void promise8Refused() {
        Due place = sentences.of(8, "`place`: 0 to 47, or NONE for ashore");
        Due range = sentences.of(8, "Throws `IllegalArgumentException` if place is out of range");
        for (int wrong : Ints.outsideBut(NONE, 0, 47)) {
            refusals.ofGoods(range, "put at " + wrong, Due.RANGE, (ship, goods) -> ship.put(goods, wrong));
        }
        for (int wrong : new int[] {-2, 48}) {
            DangerousGoods ship = Ship.ONE_ABOARD.make();
            place.fails("put at " + wrong, Due.RANGE, () -> ship.put(0, wrong));
        }
        Due noGoods = sentences.of(8, NO_SUCH_GOODS);
        refusals.ofNoGoods(noGoods, "put at 0", (ship, goods) -> ship.put(goods, 0));
        refusals.ofNoGoods(noGoods, "put at 47", (ship, goods) -> ship.put(goods, 47));
        refusals.ofNoGoods(noGoods, "put ashore", (ship, goods) -> ship.put(goods, NONE));
    }

    private void promise9() {
        Due due = sentences.of(9, "Returns how many goods there are, ashore and aboard.");
        for (Ship kind : Ship.values()) {
            DangerousGoods ship = kind.make();
            due.same("on " + kind, ship.goods(), kind.count);
            for (int goods = 0; goods < kind.count; goods++) {
                ship.put(goods, goods % 2 == 0 ? NONE : 47);
                due.same("moved on " + kind, ship.goods(), kind.count);
            }
        }
    }

    private void promise10() {
        Due due = sentences.of(10, "Returns the place of goods; NONE if they are ashore.");
        for (int place = 0; place < 48; place++) {
            DangerousGoods ship = Ship.ALL_ASHORE.make();
            due.same("ashore", ship.placeOf(place % 16), NONE);
            ship.put(place % 16, place);
            due.same("at " + place, ship.placeOf(place % 16), place);
            due.same("others", ship.placeOf((place + 1) % 16), NONE);
            ship.put(place % 16, NONE);
            due.same("ashore again", ship.placeOf(place % 16), NONE);
        }
        refusals.ofNoGoods(sentences.of(10, NO_SUCH_GOODS), "placeOf", (ship, goods) -> ship.placeOf(goods));
    }
}
