/**
 * Promises 14 to 20, areInBreach, isMisplaced, breaches, inBreachWith, isClean, canPut, placeFor, and the sentences of
 * "Goods" behind them.
 */
final class PlanSentences {
    private static final String NO_SUCH_GOODS = "Throws `IndexOutOfBoundsException` if there are no such goods";
    private static final int NONE = DangerousGoods.NONE;

    private final Sentences sentences;
    private final Refusals refusals;

    PlanSentences(Sentences sentences, Refusals refusals) {
        this.sentences = sentences;
        this.refusals = refusals;
    }

    void tell() {
        sentences.tellAll(this::breachAtEachDistance, this::misplacedByEachClass, this::misplacedByQuantity,
                this::clean, this::promise14, this::promise14Refused, this::promise15, this::promise16And17,
                this::promise16And17FewGoods, this::promise18, this::promise19, this::promise19Places,
                this::promise19Others, this::promise19Refused, this::promise20, this::promise20Sixteen,
                this::promise20Deck, this::promise20Last);
    }

    /** Goods of one class each, which need a distance from one another only as a test tells it. */
    private static DangerousGoods shipWith(int count) {
        DangerousGoods ship = new DangerousGoods();
        for (int goods = 0; goods < count; goods++) {
            ship.add(1 + goods % 9, NONE, 100);
        }
        return ship;
    }

    private static DangerousGoods shipWithAllOfClass5(int place) {
        DangerousGoods ship = new DangerousGoods();
        for (int goods = 0; goods < 16; goods++) {
            ship.add(5, NONE, 100);
            ship.put(goods, place);
        }
        return ship;
    }

    private void breachAtEachDistance() {
        Due due = sentences.of("Goods", "Two goods aboard are in breach, if the distance of their places is less "
                + "than what they need.");
        int[] placeAt = {10, 8, 7, 12, 24};
        for (int need = 0; need <= 4; need++) {
            DangerousGoods ship = shipWith(2);
            ship.setDistance(1, 2, need);
            ship.put(0, 10);
            for (int distance = 0; distance <= 4; distance++) {
                ship.put(1, placeAt[distance]);
                boolean isBreach = distance < need;
                String when = "need " + need + " distance " + distance;
                due.same("areInBreach, " + when, ship.areInBreach(0, 1), isBreach);
                due.same("areInBreach turned, " + when, ship.areInBreach(1, 0), isBreach);
                due.same("breaches, " + when, ship.breaches(), isBreach ? 1 : 0);
                due.same("inBreachWith, " + when, ship.inBreachWith(0), isBreach ? 2 : 0);
                due.same("isClean, " + when, ship.isClean(), !isBreach);
                due.same("canPut, " + when, ship.canPut(0, 10), !isBreach);
                due.same("fewest, " + when, ship.fewest(), isBreach ? 1 : 0);
            }
        }
    }

    private Due misplacedSentence() {
        return sentences.of("Goods", "Goods aboard are misplaced, if they are not excepted, and one of their classes "
                + "is barred from the deck of their place.");
    }

    private void misplacedByEachClass() {
        for (int barred = 1; barred <= 9; barred++) {
            DangerousGoods ship = new DangerousGoods();
            int other = barred == 9 ? 1 : 9;
            ship.add(barred, NONE, 1);
            ship.add(barred, other, 1);
            ship.add(other, barred, 1);
            ship.add(other, NONE, 1);
            ship.bar(barred, 1, true);
            for (int goods = 0; goods < 4; goods++) {
                String who = "goods " + goods + ", barred " + barred;
                misplacedSentence().same(who + " ashore", ship.isMisplaced(goods), false);
                ship.put(goods, 46);
                misplacedSentence().same(who + " under deck", ship.isMisplaced(goods), false);
                ship.put(goods, 47);
                misplacedSentence().same(who + " on deck", ship.isMisplaced(goods), goods < 3);
            }
        }
    }

    private void misplacedByQuantity() {
        DangerousGoods ship = new DangerousGoods();
        ship.add(3, 7, 100);
        ship.bar(7, 0, true);
        ship.put(0, 0);
        misplacedSentence().same("neither", ship.isMisplaced(0), true);
        ship.setQuantities(3, 100, 100);
        misplacedSentence().same("the class alone would be excepted", ship.isMisplaced(0), true);
        ship.setQuantities(7, 100, 99);
        misplacedSentence().same("limited", ship.isMisplaced(0), true);
        ship.setQuantities(7, 100, 100);
        misplacedSentence().same("excepted", ship.isMisplaced(0), false);
        ship.setQuantity(0, 101);
        misplacedSentence().same("one more than excepted", ship.isMisplaced(0), true);
    }

    private void clean() {
        Due due = sentences.of("Goods", "The plan is clean, if no goods are in breach or misplaced.");
        DangerousGoods ship = shipWith(16);
        ship.setDistance(6, 7, 1);
        ship.bar(7, 1, true);
        due.same("all ashore", ship.isClean(), true);
        ship.put(14, 47);
        due.same("one of them aboard", ship.isClean(), true);
        ship.put(15, 47);
        due.same("a breach and misplaced", ship.isClean(), false);
        ship.put(14, 0);
        due.same("misplaced alone", ship.isClean(), false);
        ship.put(15, 0);
        due.same("a breach alone", ship.isClean(), false);
        ship.put(15, 2);
        due.same("just far enough", ship.isClean(), true);
    }

    private void promise14() {
        Due due = sentences.of(14, "Tells whether two goods are in breach; false if the first ones, the second ones, "
                + "or both are ashore.");
        Due other = sentences.of(14, "`other`: other goods");
        DangerousGoods ship = shipWith(16);
        ship.setDistance(1, 7, 4);
        due.same("both ashore", ship.areInBreach(0, 15), false);
        ship.put(0, 0);
        due.same("the second ones ashore", ship.areInBreach(0, 15), false);
        due.same("the first ones ashore", ship.areInBreach(15, 0), false);
        ship.put(15, 0);
        due.same("both aboard", ship.areInBreach(0, 15), true);
        other.same("the last and the first", ship.areInBreach(15, 0), true);
        other.same("others", ship.areInBreach(0, 14), false);
        ship.put(15, 35);
        due.same("as far as they need", ship.areInBreach(0, 15), false);
        ship.put(0, NONE);
        ship.put(15, 0);
        due.same("the first ones ashore again", ship.areInBreach(0, 15), false);
        ship.put(15, NONE);
        due.same("both ashore again", ship.areInBreach(0, 15), false);
    }

    private void promise14Refused() {
        Due noGoods = sentences.of(14, NO_SUCH_GOODS);
        refusals.ofNoGoods(noGoods, "areInBreach of them and 0", (ship, goods) -> ship.areInBreach(goods, 0));
        refusals.ofNoGoods(noGoods, "areInBreach of them and 15", (ship, goods) -> ship.areInBreach(goods, 15));
        refusals.ofNoGoods(noGoods, "areInBreach of them and 16", (ship, goods) -> ship.areInBreach(goods, 16));
        refusals.ofNoGoods(noGoods, "areInBreach of 0 and them", (ship, goods) -> ship.areInBreach(0, goods));
        refusals.ofNoGoods(noGoods, "areInBreach of -1 and them", (ship, goods) -> ship.areInBreach(-1, goods));
        Due same = sentences.of(14, "Throws `IllegalArgumentException` if both are the same goods");
        refusals.ofGoods(same, "areInBreach of the same", Due.RANGE, (ship, goods) -> ship.areInBreach(goods, goods));
    }

    private void promise15() {
        Due due = sentences.of(15, "Tells whether goods are misplaced; false if they are ashore.");
        DangerousGoods ship = shipWithAllOfClass5(NONE);
        ship.bar(5, 0, true);
        for (int goods : new int[] {0, 15}) {
            due.same("ashore " + goods, ship.isMisplaced(goods), false);
            for (int place : new int[] {0, 1, 46, 47}) {
                ship.put(goods, place);
                due.same("at " + place + " " + goods, ship.isMisplaced(goods), place == 0 || place == 46);
            }
            ship.put(goods, NONE);
            due.same("ashore again " + goods, ship.isMisplaced(goods), false);
        }
        ship.bar(5, 1, true);
        due.same("ashore, barred from both", ship.isMisplaced(0), false);
        refusals.ofNoGoods(sentences.of(15, NO_SUCH_GOODS), "isMisplaced", (x, goods) -> x.isMisplaced(goods));
    }

    private Due pairsSentence() {
        return sentences.of(16, "Returns the number of pairs of goods that are in breach.");
    }

    private Due bitsSentence() {
        return sentences.of(17, "Returns the goods that are in breach with some goods: bit g stands for the goods g.");
    }

    private void promise16And17() {
        DangerousGoods ship = shipWithAllOfClass5(NONE);
        ship.setDistance(5, 5, 1);
        pairsSentence().same("all ashore", ship.breaches(), 0);
        bitsSentence().same("all ashore", ship.inBreachWith(0), 0);
        for (int goods = 0; goods < 16; goods++) {
            ship.put(goods, 20);
            pairsSentence().same("up to goods " + goods, ship.breaches(), goods * (goods + 1) / 2);
            bitsSentence().same("of goods " + goods, ship.inBreachWith(goods), (1 << goods) - 1);
            bitsSentence().same("of the first", ship.inBreachWith(0), (2 << goods) - 2);
        }
        for (int goods = 0; goods < 16; goods++) {
            bitsSentence().same("all but " + goods, ship.inBreachWith(goods), 0xFFFF - (1 << goods));
        }
        ship.put(4, NONE);
        bitsSentence().same("of goods ashore", ship.inBreachWith(4), 0);
        bitsSentence().same("without goods ashore", ship.inBreachWith(15), 0x7FEF);
        pairsSentence().same("without goods ashore", ship.breaches(), 105);
        ship.put(4, 21);
        bitsSentence().same("of goods far enough", ship.inBreachWith(4), 0);
        pairsSentence().same("without goods far enough", ship.breaches(), 105);
        bitsSentence().same("without goods far enough", ship.inBreachWith(0), 0xFFEE);
    }

    private void promise16And17FewGoods() {
        DangerousGoods ship = new DangerousGoods();
        ship.setDistance(5, 5, 4);
        ship.bar(5, 0, true);
        pairsSentence().same("no goods", ship.breaches(), 0);
        ship.add(5, NONE, 100);
        pairsSentence().same("one goods ashore", ship.breaches(), 0);
        ship.put(0, 0);
        pairsSentence().same("one goods aboard, misplaced", ship.breaches(), 0);
        bitsSentence().same("one goods aboard, misplaced", ship.inBreachWith(0), 0);
        ship.add(5, NONE, 100);
        pairsSentence().same("the second ones ashore", ship.breaches(), 0);
        bitsSentence().same("the second ones ashore", ship.inBreachWith(0), 0);
        refusals.ofNoGoods(sentences.of(17, NO_SUCH_GOODS), "inBreachWith", (x, goods) -> x.inBreachWith(goods));
    }

    private void promise18() {
        Due due = sentences.of(18, "Tells whether the plan is clean.");
        DangerousGoods ship = new DangerousGoods();
        ship.bar(1, 0, true);
        due.same("no goods", ship.isClean(), true);
        ship.add(1, NONE, 100);
        due.same("one goods ashore", ship.isClean(), true);
        ship.put(0, 0);
        due.same("one goods aboard, misplaced", ship.isClean(), false);
        ship.put(0, 1);
        due.same("one goods aboard", ship.isClean(), true);
        DangerousGoods all = shipWithAllOfClass5(46);
        due.same("all aboard", all.isClean(), true);
        all.setDistance(5, 5, 1);
        due.same("all aboard, all in breach", all.isClean(), false);
        all.setQuantities(5, 100, 0);
        due.same("all limited", all.isClean(), true);
        all.setDistance(5, 5, 2);
        due.same("all limited, in breach", all.isClean(), false);
        all.setQuantities(5, 100, 100);
        all.bar(5, 0, true);
        due.same("all excepted", all.isClean(), true);
        all.setQuantity(15, 101);
        due.same("the last ones misplaced", all.isClean(), false);
        for (int goods = 0; goods < 16; goods++) {
            all.setQuantity(goods, 101);
            all.put(goods, NONE);
        }
        due.same("all ashore", all.isClean(), true);
    }

    private Due canPutSentence() {
        return sentences.of(19, "Tells whether goods would be neither misplaced nor in breach with any goods aboard, "
                + "if they were put at a place, all other goods staying where they are.");
    }

    private void promise19() {
        DangerousGoods ship = shipWith(2);
        ship.setDistance(1, 2, 2);
        ship.bar(1, 0, true);
        ship.put(1, 0);
        canPutSentence().same("misplaced alone", ship.canPut(0, 6), false);
        canPutSentence().same("in breach alone", ship.canPut(0, 1), false);
        canPutSentence().same("both", ship.canPut(0, 0), false);
        canPutSentence().same("neither", ship.canPut(0, 7), true);
        canPutSentence().same("just far enough", ship.canPut(0, 3), true);
        canPutSentence().same("still ashore", ship.placeOf(0), NONE);
        ship.put(0, 1);
        canPutSentence().same("where they are, in breach", ship.canPut(0, 1), false);
        canPutSentence().same("away from there", ship.canPut(0, 47), true);
        canPutSentence().same("still there", ship.placeOf(0), 1);
        ship.put(0, 3);
        canPutSentence().same("where they are", ship.canPut(0, 3), true);
        ship.setDistance(1, 1, 4);
        canPutSentence().same("not in breach with themselves", ship.canPut(0, 5), true);
        ship.put(1, NONE);
        canPutSentence().same("others ashore do not count", ship.canPut(0, 1), true);
        canPutSentence().same("from ashore", ship.canPut(1, 0), true);
        canPutSentence().same("from ashore, too near", ship.canPut(1, 2), false);
        ship.setQuantities(1, 100, 99);
        canPutSentence().same("limited, misplaced", ship.canPut(0, 46), false);
        ship.setQuantities(1, 100, 100);
        canPutSentence().same("excepted", ship.canPut(0, 46), true);
    }

    private void promise19Places() {
        Due place = sentences.of(19, "`place`: 0 to 47");
        DangerousGoods ship = shipWith(2);
        ship.setDistance(1, 2, 4);
        ship.put(1, 12);
        for (int at = 0; at < 48; at++) {
            place.same("canPut at " + at, ship.canPut(0, at), at >= 36);
        }
        ship.put(1, 47);
        place.same("the least", ship.canPut(0, 0), true);
        place.same("the greatest", ship.canPut(0, 47), false);
        ship.put(1, 0);
        place.same("the least, there are others", ship.canPut(0, 0), false);
        place.same("the greatest, free", ship.canPut(0, 47), true);
        for (int wrong : new int[] {NONE, 48}) {
            place.fails("canPut at " + wrong, Due.RANGE, () -> ship.canPut(0, wrong));
        }
    }

    /** Neither a breach of others nor others that are misplaced count, but each of the others does. */
    private void promise19Others() {
        DangerousGoods ship = shipWith(4);
        ship.setDistance(2, 3, 4);
        ship.bar(4, 0, true);
        for (int goods = 1; goods < 4; goods++) {
            ship.put(goods, 0);
        }
        canPutSentence().same("a breach of others, misplaced others", ship.canPut(0, 0), true);
        canPutSentence().same("far from them", ship.canPut(0, 47), true);
        for (int counted = 0; counted < 16; counted++) {
            DangerousGoods full = shipWithAllOfClass5(20);
            full.setDistance(5, 5, 1);
            int asked = (counted + 7) % 16;
            for (int goods = 0; goods < 16; goods++) {
                full.put(goods, goods == asked ? NONE : goods == counted ? 21 : 20);
            }
            canPutSentence().same("beside all", full.canPut(asked, 19), true);
            canPutSentence().same("at the place of goods " + counted, full.canPut(asked, 21), false);
        }
    }

    private void promise19Refused() {
        Due range = sentences.of(19, "Throws `IllegalArgumentException` if place is out of range");
        for (int wrong : Ints.outside(0, 47)) {
            refusals.ofGoods(range, "canPut at " + wrong, Due.RANGE, (ship, goods) -> ship.canPut(goods, wrong));
        }
        Due noGoods = sentences.of(19, NO_SUCH_GOODS);
        refusals.ofNoGoods(noGoods, "canPut at 0", (ship, goods) -> ship.canPut(goods, 0));
        refusals.ofNoGoods(noGoods, "canPut at 47", (ship, goods) -> ship.canPut(goods, 47));
    }

    private Due placeForSentence() {
        return sentences.of(20, "Returns the place with the lowest number for which canPut() is true; NONE if there "
                + "is none.");
    }

    private void promise20() {
        int[] lowest = {0, 1, 3, 12, 24};
        for (int need = 0; need <= 4; need++) {
            DangerousGoods ship = shipWith(2);
            ship.setDistance(1, 2, need);
            placeForSentence().same("all ashore", ship.placeFor(1), 0);
            ship.put(0, 0);
            placeForSentence().same("need " + need, ship.placeFor(1), lowest[need]);
            placeForSentence().same("the others ashore", ship.placeFor(0), 0);
            ship.put(1, 47);
            placeForSentence().same("from the last place, need " + need, ship.placeFor(1), lowest[need]);
            placeForSentence().same("still there", ship.placeOf(1), 47);
        }
        refusals.ofNoGoods(sentences.of(20, NO_SUCH_GOODS), "placeFor", (x, goods) -> x.placeFor(goods));
    }

    private void promise20Sixteen() {
        DangerousGoods ship = shipWithAllOfClass5(NONE);
        ship.setDistance(5, 5, 1);
        for (int goods = 0; goods < 16; goods++) {
            placeForSentence().same("all before goods " + goods + " aboard", ship.placeFor(goods), goods);
            ship.put(goods, goods);
        }
        for (int goods = 0; goods < 16; goods++) {
            placeForSentence().same("where goods " + goods + " are", ship.placeFor(goods), goods);
        }
        ship.put(0, 16);
        placeForSentence().same("a place is free for the last ones", ship.placeFor(15), 0);
        for (int goods = 0; goods < 16; goods++) {
            ship.put(goods, 0);
        }
        for (int goods = 0; goods < 16; goods++) {
            placeForSentence().same("all at 0, goods " + goods, ship.placeFor(goods), 1);
        }
    }

    private void promise20Deck() {
        DangerousGoods ship = shipWith(1);
        ship.bar(1, 0, true);
        placeForSentence().same("on deck", ship.placeFor(0), 1);
        ship.bar(1, 1, true);
        placeForSentence().same("on no deck", ship.placeFor(0), NONE);
        placeForSentence().same("still ashore", ship.placeOf(0), NONE);
        ship.put(0, 47);
        placeForSentence().same("on no deck, from aboard", ship.placeFor(0), NONE);
        placeForSentence().same("still aboard", ship.placeOf(0), 47);
        ship.setQuantities(1, 100, 100);
        placeForSentence().same("excepted", ship.placeFor(0), 0);
    }

    private void promise20Last() {
        DangerousGoods between = shipWith(3);
        between.setDistance(1, 2, 4);
        between.setDistance(1, 3, 4);
        between.put(1, 12);
        placeForSentence().same("the last hold", between.placeFor(0), 36);
        between.put(2, 24);
        placeForSentence().same("no hold", between.placeFor(0), NONE);
        DangerousGoods full = shipWith(3);
        full.setDistance(1, 2, 4);
        full.setDistance(2, 3, 1);
        full.bar(2, 0, true);
        full.put(0, 12);
        for (int place = 37; place < 47; place += 2) {
            full.put(full.add(3, NONE, 100), place);
        }
        placeForSentence().same("the last place", full.placeFor(1), 47);
        full.put(1, 47);
        placeForSentence().same("their own place, the last", full.placeFor(1), 47);
        full.put(2, 47);
        placeForSentence().same("not even the last", full.placeFor(1), NONE);
        full.put(2, 45);
        full.put(3, NONE);
        placeForSentence().same("a gap before the last", full.placeFor(1), 37);
    }
}
