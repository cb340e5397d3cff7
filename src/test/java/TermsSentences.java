/** The sentences of "What it is" and "Terms". */
final class TermsSentences {
    private static final String TERMS = "Terms";
    private static final int NONE = DangerousGoods.NONE;

    private final Sentences sentences;
    private final Refusals refusals;

    TermsSentences(Sentences sentences, Refusals refusals) {
        this.sentences = sentences;
        this.refusals = refusals;
    }

    void tell() {
        sentences.tellAll(this::callsOfAnObject, this::classes, this::decks, this::holdsAndBays, this::places,
                this::firstListedOfGoodsCalls, this::firstListedOfAdd, this::refusedCallsInARow);
    }

    private void callsOfAnObject() {
        Due due = sentences.of("What it is", "An object is used for at most 512 calls after it has been made; "
                + "what later calls answer is free.");
        DangerousGoods refused = new DangerousGoods();
        for (int call = 1; call < 512; call++) {
            due.fails("refused, call " + call, Due.NO_GOODS, () -> refused.placeOf(0));
        }
        due.same("add, call 512", refused.add(9, NONE, 10000), 0);
        DangerousGoods moved = new DangerousGoods();
        moved.add(1, NONE, 1);
        moved.put(0, 2);
        for (int call = 3; call <= 512; call++) {
            due.same("put, call " + call, moved.put(0, call % 48), (call - 1) % 48);
        }
        DangerousGoods asked = new DangerousGoods();
        asked.setDistance(1, 1, 4);
        for (int goods = 0; goods < 16; goods++) {
            asked.add(1, NONE, 1);
            asked.put(goods, 47);
        }
        for (int call = 34; call < 512; call += 2) {
            due.same("fewest, call " + call, asked.fewest(), 15);
            due.same("leaving, call " + (call + 1), asked.leaving(), 0x7FFF);
        }
        due.same("breaches, call 512", asked.breaches(), 120);
    }

    private void classes() {
        Due due = sentences.of(TERMS, "Classes are 1 to 9.");
        for (int one = 1; one <= 9; one++) {
            int ofClass = one;
            DangerousGoods ship = new DangerousGoods();
            due.passes("setDistance of " + ofClass, () -> ship.setDistance(ofClass, ofClass, 4));
            due.passes("setQuantities of " + ofClass, () -> ship.setQuantities(ofClass, 1, 1));
            due.passes("bar of " + ofClass, () -> ship.bar(ofClass, 1, true));
            due.passes("add of " + ofClass, () -> ship.add(ofClass, NONE, 1));
            due.passes("add with " + ofClass, () -> ship.add(ofClass == 9 ? 1 : 9, ofClass, 1));
        }
        for (int wrong : Ints.outside(1, 9)) {
            DangerousGoods ship = new DangerousGoods();
            due.fails("setDistance of " + wrong, Due.RANGE, () -> ship.setDistance(wrong, wrong, 4));
            due.fails("setQuantities of " + wrong, Due.RANGE, () -> ship.setQuantities(wrong, 1, 1));
            due.fails("bar of " + wrong, Due.RANGE, () -> ship.bar(wrong, 1, true));
            due.fails("add of " + wrong, Due.RANGE, () -> ship.add(wrong, NONE, 1));
        }
    }

    private Due shipSentence() {
        return sentences.of(TERMS, "A ship has 4 holds, 0 to 3, one behind the other; each has 6 bays, 0 to 5, "
                + "and two decks, 0 under deck and 1 on deck.");
    }

    /** Goods barred from a deck tell which places it has. */
    private void decks() {
        for (int deck = 0; deck <= 1; deck++) {
            DangerousGoods ship = new DangerousGoods();
            ship.add(1, NONE, 1);
            ship.bar(1, deck, true);
            for (int underDeck = 0; underDeck < 48; underDeck += 2) {
                ship.put(0, underDeck);
                shipSentence().same("deck " + deck + " at " + underDeck, ship.isMisplaced(0), deck == 0);
                ship.put(0, underDeck + 1);
                shipSentence().same("deck " + deck + " at " + (underDeck + 1), ship.isMisplaced(0), deck == 1);
            }
        }
    }

    /** Places of one hold are at most 2 apart, and of the ends of bays that touch it is 1. */
    private void holdsAndBays() {
        for (int hold = 0; hold < 4; hold++) {
            DangerousGoods ship = new DangerousGoods();
            for (int place = 0; place < 48; place++) {
                boolean isInside = place >= 12 * hold && place <= 12 * hold + 11;
                shipSentence().same("hold " + hold + " with " + place, ship.distance(12 * hold, place) <= 2, isInside);
                shipSentence().same(place + " with hold " + hold, ship.distance(place, 12 * hold + 11) <= 2, isInside);
            }
            for (int bay = 0; bay < 5; bay++) {
                int place = 12 * hold + 2 * bay;
                shipSentence().same("bay " + bay + " and the next", ship.distance(place, place + 2), 1);
            }
        }
    }

    private void places() {
        Due due = sentences.of(TERMS, "A place is told by 12 * hold + 2 * bay + deck, 0 to 47; any number of goods "
                + "can be at a place.");
        for (int place = 0; place < 48; place++) {
            DangerousGoods ship = new DangerousGoods();
            for (int goods = 0; goods < 16; goods++) {
                ship.add(1, NONE, 1);
                due.same("put all at " + place, ship.put(goods, place), NONE);
            }
            for (int goods = 0; goods < 16; goods++) {
                due.same("placeOf " + goods, ship.placeOf(goods), place);
            }
        }
        for (int wrong : Ints.outside(0, 47)) {
            DangerousGoods ship = Ship.ONE_ASHORE.make();
            due.fails("distance of " + wrong, Due.RANGE, () -> ship.distance(wrong, wrong));
            due.fails("canPut at " + wrong, Due.RANGE, () -> ship.canPut(0, wrong));
        }
    }

    private Due firstListedSentence() {
        return sentences.of(TERMS, "A method throws IndexOutOfBoundsException if there are no such goods, "
                + "IllegalArgumentException if another argument is out of range, and IllegalStateException as it "
                + "documents; if several apply, the one that it lists first is thrown.");
    }

    private void firstListedOfGoodsCalls() {
        Due due = firstListedSentence();
        for (int wrong : new int[] {0, 10001, Integer.MIN_VALUE, Integer.MAX_VALUE}) {
            refusals.ofNoGoods(due, "setQuantity " + wrong, (ship, goods) -> ship.setQuantity(goods, wrong));
        }
        for (int wrong : new int[] {-2, 48, Integer.MIN_VALUE, Integer.MAX_VALUE}) {
            refusals.ofNoGoods(due, "put at " + wrong, (ship, goods) -> ship.put(goods, wrong));
            refusals.ofNoGoods(due, "canPut at " + wrong, (ship, goods) -> ship.canPut(goods, wrong));
        }
        refusals.ofNoGoods(due, "canPut at NONE", (ship, goods) -> ship.canPut(goods, NONE));
        refusals.ofNoGoods(due, "need of both the same", (ship, goods) -> ship.need(goods, goods));
        refusals.ofNoGoods(due, "areInBreach of both the same", (ship, goods) -> ship.areInBreach(goods, goods));
    }

    private void firstListedOfAdd() {
        Due due = firstListedSentence();
        for (Ship kind : Ship.values()) {
            if (kind.isFull()) {
                refusals.on(kind, due, "add of class 0", Due.RANGE, ship -> ship.add(0, NONE, 1));
                refusals.on(kind, due, "add of class 10", Due.RANGE, ship -> ship.add(10, NONE, 1));
                refusals.on(kind, due, "add with class 0", Due.RANGE, ship -> ship.add(1, 0, 1));
                refusals.on(kind, due, "add with class 10", Due.RANGE, ship -> ship.add(1, 10, 1));
                refusals.on(kind, due, "add with its own class", Due.RANGE, ship -> ship.add(1, 1, 1));
                refusals.on(kind, due, "add none of it", Due.RANGE, ship -> ship.add(1, NONE, 0));
                refusals.on(kind, due, "add 10001 of it", Due.RANGE, ship -> ship.add(1, NONE, 10001));
            }
        }
    }

    /** The calls after refused ones answer as if those had not been made; Refusals looks at each call alone. */
    private void refusedCallsInARow() {
        Due due = sentences.of(TERMS, "A call that throws changes nothing.");
        DangerousGoods ship = new DangerousGoods();
        due.fails("add", Due.RANGE, () -> ship.add(1, NONE, 10001));
        due.same("the first number is still free", ship.add(1, NONE, 10000), 0);
        due.fails("put", Due.RANGE, () -> ship.put(0, 48));
        due.same("still ashore", ship.put(0, 47), NONE);
        due.fails("put below NONE", Due.RANGE, () -> ship.put(0, -2));
        due.same("still aboard", ship.placeOf(0), 47);
        due.fails("setQuantity", Due.RANGE, () -> ship.setQuantity(0, 0));
        due.same("still as many", ship.setQuantity(0, 1), 10000);
        due.fails("setDistance", Due.RANGE, () -> ship.setDistance(1, 2, 5));
        due.same("still 0", ship.setDistance(2, 1, 0), 0);
        due.fails("bar", Due.RANGE, () -> ship.bar(1, 2, true));
        due.same("still not misplaced", ship.isMisplaced(0), false);
        due.fails("setQuantities", Due.RANGE, () -> ship.setQuantities(1, 1, 2));
        due.same("still not limited", ship.isLimited(0), false);
        due.same("still not excepted", ship.isExcepted(0), false);
    }
}
