/** The sentences of "Distances" and of promises 1 to 5: a new object, setDistance, setQuantities, bar, distance. */
final class RulesSentences {
    private static final String THROWS = "Throws `IllegalArgumentException` if an argument is out of range";
    private static final int NONE = DangerousGoods.NONE;

    private final Sentences sentences;
    private final Refusals refusals;

    RulesSentences(Sentences sentences, Refusals refusals) {
        this.sentences = sentences;
        this.refusals = refusals;
    }

    void tell() {
        sentences.tellAll(this::distancesOfAllPlaces, this::distancesAtTheEdges, this::tableOfClasses,
                this::tableOfClassesAtFirst, this::promise1, this::promise1SecondObject, this::promise2,
                this::promise2Ranges, this::promise2Refused, this::promise3, this::promise3Ranges,
                this::promise3Refused, this::promise4, this::promise4Ranges, this::promise5, this::promise5Ranges);
    }

    private Due distanceSentence() {
        return sentences.of("Distances", "Two places have one of these distances, the greatest that applies: 4, if "
                + "their holds differ by 2 or more; 3, if their holds differ by 1; 2, if they are in the same hold, "
                + "and their bays differ by 3 or more, or their bays differ and their decks, too; 1, if they are "
                + "not the same place; 0 otherwise.");
    }

    private void distancesOfAllPlaces() {
        int[] byHolds = {0, 3, 4, 4};
        int[][] byBaysAndDecks = {{0, 1}, {1, 2}, {1, 2}, {2, 2}, {2, 2}, {2, 2}};
        for (int place = 0; place < 48; place++) {
            DangerousGoods ship = new DangerousGoods();
            for (int other = 0; other < 48; other++) {
                int holds = Math.abs(place / 12 - other / 12);
                int bays = Math.abs(place / 2 % 6 - other / 2 % 6);
                int decks = Math.abs(place % 2 - other % 2);
                int told = holds > 0 ? byHolds[holds] : byBaysAndDecks[bays][decks];
                distanceSentence().same("distance(" + place + ", " + other + ")", ship.distance(place, other), told);
            }
        }
    }

    private void distancesAtTheEdges() {
        DangerousGoods ship = new DangerousGoods();
        int[][] rows = {
            {0, 0, 0}, {47, 47, 0},
            {0, 1, 1}, {0, 2, 1}, {0, 4, 1}, {1, 5, 1}, {10, 11, 1}, {36, 40, 1}, {46, 47, 1},
            {0, 3, 2}, {1, 2, 2}, {0, 5, 2}, {0, 6, 2}, {1, 7, 2}, {0, 7, 2}, {0, 10, 2}, {0, 11, 2}, {36, 47, 2},
            {11, 12, 3}, {10, 12, 3}, {0, 12, 3}, {0, 23, 3}, {12, 35, 3}, {35, 36, 3}, {24, 47, 3},
            {11, 24, 4}, {0, 24, 4}, {0, 35, 4}, {23, 36, 4}, {0, 36, 4}, {11, 36, 4}, {0, 47, 4},
        };
        for (int[] row : rows) {
            String places = row[0] + ", " + row[1];
            distanceSentence().same("distance " + places, ship.distance(row[0], row[1]), row[2]);
            distanceSentence().same("distance turned " + places, ship.distance(row[1], row[0]), row[2]);
        }
    }

    private Due tableSentence() {
        return sentences.of("Distances", "The table tells for each two classes, which can be the same, a distance "
                + "from 0 to 4; at first it is 0 for all.");
    }

    /** Each pair has a distance of its own: no pair may write over another one. */
    private void tableOfClasses() {
        DangerousGoods ship = new DangerousGoods();
        for (int one = 1; one <= 9; one++) {
            for (int other = one; other <= 9; other++) {
                tableSentence().same("at first " + one + " " + other,
                        ship.setDistance(one, other, (3 * one + 7 * other) % 5), 0);
            }
        }
        for (int one = 1; one <= 9; one++) {
            for (int other = one; other <= 9; other++) {
                int told = (3 * one + 7 * other) % 5;
                tableSentence().same("kept " + one + " " + other, ship.setDistance(other, one, told), told);
                tableSentence().same("turned " + one + " " + other, ship.setDistance(one, other, told), told);
            }
        }
    }

    private void tableOfClassesAtFirst() {
        for (int one = 1; one <= 9; one++) {
            for (int other = 1; other <= 9; other++) {
                DangerousGoods ship = new DangerousGoods();
                ship.add(one, NONE, 1);
                ship.add(other, NONE, 1);
                tableSentence().same("need of classes " + one + " and " + other, ship.need(0, 1), 0);
                tableSentence().same("setDistance of " + one + " and " + other, ship.setDistance(one, other, 4), 0);
            }
        }
    }

    private void promise1() {
        Due due = sentences.of(1, "An empty ship; all distances of the table are 0.");
        DangerousGoods ship = new DangerousGoods();
        due.same("goods()", ship.goods(), 0);
        due.same("breaches()", ship.breaches(), 0);
        due.same("isClean()", ship.isClean(), true);
        due.same("fewest()", ship.fewest(), 0);
        due.same("leaving()", ship.leaving(), 0);
        due.fails("placeOf(0)", Due.NO_GOODS, () -> ship.placeOf(0));
        for (int one = 1; one <= 9; one++) {
            for (int other = 1; other <= 9; other++) {
                due.same("setDistance " + one + " " + other, ship.setDistance(one, other, 0), 0);
            }
            due.same("bar under deck", ship.bar(one, 0, false), false);
            due.same("bar on deck", ship.bar(one, 1, false), false);
        }
        due.same("the first goods", ship.add(9, 8, 1), 0);
    }

    private void promise1SecondObject() {
        Due due = sentences.of(1, "An empty ship; all distances of the table are 0.");
        DangerousGoods first = Ship.ALL_ABOARD.make();
        DangerousGoods second = new DangerousGoods();
        due.same("goods() of a second ship", second.goods(), 0);
        due.same("setDistance of a second ship", second.setDistance(1, 1, 0), 0);
        due.same("bar of a second ship", second.bar(9, 1, false), false);
        due.same("add to a second ship", second.add(1, NONE, 1), 0);
        due.same("isExcepted on a second ship", second.isExcepted(0), false);
        due.same("the first ship's goods", first.goods(), 16);
        due.same("the first ship's bar", first.bar(9, 1, true), true);
    }

    private void promise2() {
        Due due = sentences.of(2, "Sets the distance that two classes need; it counts for both orders.");
        Due returns = sentences.of(2, "Returns the distance before.");
        DangerousGoods ship = new DangerousGoods();
        ship.add(1, NONE, 1);
        ship.add(9, NONE, 1);
        returns.same("at first", ship.setDistance(1, 9, 4), 0);
        due.same("need(0, 1)", ship.need(0, 1), 4);
        due.same("need(1, 0)", ship.need(1, 0), 4);
        returns.same("in the other order", ship.setDistance(9, 1, 3), 4);
        due.same("need(0, 1) set in the other order", ship.need(0, 1), 3);
        due.same("need(1, 0) set in the other order", ship.need(1, 0), 3);
        returns.same("in the first order again", ship.setDistance(1, 9, 0), 3);
        due.same("need(1, 0) set to 0", ship.need(1, 0), 0);
        returns.same("set to 0", ship.setDistance(1, 9, 0), 0);
        returns.same("of the same class", ship.setDistance(5, 5, 2), 0);
        returns.same("of the same class again", ship.setDistance(5, 5, 1), 2);
        returns.same("of the same class, set to 1", ship.setDistance(5, 5, 1), 1);
        returns.same("of a neighbour", ship.setDistance(5, 6, 0), 0);
        returns.same("of another", ship.setDistance(4, 5, 0), 0);
    }

    private void promise2Ranges() {
        Due one = sentences.of(2, "`one`: 1 to 9");
        Due other = sentences.of(2, "`other`: 1 to 9");
        Due distance = sentences.of(2, "`distance`: 0 to 4");
        DangerousGoods ship = new DangerousGoods();
        one.same("the least", ship.setDistance(1, 5, 2), 0);
        one.same("the greatest", ship.setDistance(9, 5, 2), 0);
        other.same("the least", ship.setDistance(5, 1, 2), 2);
        other.same("the greatest", ship.setDistance(5, 9, 2), 2);
        distance.same("the greatest", ship.setDistance(5, 9, 4), 2);
        distance.same("the least", ship.setDistance(5, 9, 0), 4);
        distance.same("the least kept", ship.setDistance(5, 9, 0), 0);
        for (int wrong : Ints.outside(1, 9)) {
            refusals.everywhere(one, "one " + wrong, Due.RANGE, x -> x.setDistance(wrong, 1, 1));
            refusals.everywhere(other, "other " + wrong, Due.RANGE, x -> x.setDistance(1, wrong, 1));
        }
        for (int wrong : Ints.outside(0, 4)) {
            refusals.everywhere(distance, "distance " + wrong, Due.RANGE, x -> x.setDistance(1, 2, wrong));
            refusals.everywhere(distance, "distance turned " + wrong, Due.RANGE, x -> x.setDistance(2, 1, wrong));
            refusals.everywhere(distance, "distance of one class " + wrong, Due.RANGE,
                    x -> x.setDistance(9, 9, wrong));
        }
    }

    private void promise2Refused() {
        Due due = sentences.of(2, THROWS);
        refusals.everywhere(due, "one and other", Due.RANGE, x -> x.setDistance(0, 10, 1));
        refusals.everywhere(due, "one and distance", Due.RANGE, x -> x.setDistance(10, 1, 5));
        refusals.everywhere(due, "other and distance", Due.RANGE, x -> x.setDistance(1, 0, -1));
        refusals.everywhere(due, "all", Due.RANGE, x -> x.setDistance(-1, -1, -1));
    }

    private void promise3() {
        Due due = sentences.of(3, "Sets the quantities of a class.");
        DangerousGoods ship = new DangerousGoods();
        for (int ofClass = 1; ofClass <= 9; ofClass++) {
            ship.add(ofClass, NONE, 10);
        }
        for (int ofClass = 1; ofClass <= 9; ofClass++) {
            ship.setQuantities(ofClass, 10, 9);
            for (int goods = 0; goods < 9; goods++) {
                due.same("isLimited " + goods, ship.isLimited(goods), goods == ofClass - 1);
            }
            ship.setQuantities(ofClass, 10, 10);
            due.same("isExcepted", ship.isExcepted(ofClass - 1), true);
            due.same("isExcepted of the next", ship.isExcepted(ofClass % 9), false);
            ship.setQuantities(ofClass, 9, 9);
            due.same("isExcepted no more", ship.isExcepted(ofClass - 1), false);
            due.same("isLimited no more", ship.isLimited(ofClass - 1), false);
        }
    }

    private void promise3Ranges() {
        Due limited = sentences.of(3, "`limited`: 0 to 10000");
        Due excepted = sentences.of(3, "`excepted`: 0 to limited");
        DangerousGoods ship = new DangerousGoods();
        ship.add(9, NONE, 10000);
        ship.setQuantities(9, 10000, 0);
        limited.same("the greatest", ship.isLimited(0), true);
        excepted.same("the least", ship.isExcepted(0), false);
        ship.setQuantities(9, 10000, 9999);
        excepted.same("one less than limited", ship.isExcepted(0), false);
        ship.setQuantities(9, 10000, 10000);
        excepted.same("as limited", ship.isExcepted(0), true);
        ship.setQuantity(0, 1);
        limited.passes("the least", () -> ship.setQuantities(9, 0, 0));
        limited.same("isLimited at the least", ship.isLimited(0), false);
        excepted.same("isExcepted, both 0", ship.isExcepted(0), false);
        ship.setQuantities(9, 1, 0);
        limited.same("isLimited above the least", ship.isLimited(0), true);
        ship.setQuantities(9, 1, 1);
        excepted.same("isExcepted above the least", ship.isExcepted(0), true);
    }

    private void promise3Refused() {
        Due ofClass = sentences.of(3, "`ofClass`: 1 to 9");
        Due limited = sentences.of(3, "`limited`: 0 to 10000");
        Due excepted = sentences.of(3, "`excepted`: 0 to limited");
        Due all = sentences.of(3, THROWS);
        for (int wrong : Ints.outside(1, 9)) {
            refusals.everywhere(ofClass, "class " + wrong, Due.RANGE, x -> x.setQuantities(wrong, 1, 1));
        }
        for (int wrong : Ints.outside(0, 10000)) {
            refusals.everywhere(limited, "limited " + wrong, Due.RANGE, x -> x.setQuantities(1, wrong, 0));
            refusals.everywhere(limited, "both " + wrong, Due.RANGE, x -> x.setQuantities(1, wrong, wrong));
            refusals.everywhere(excepted, "excepted " + wrong, Due.RANGE, x -> x.setQuantities(1, 10000, wrong));
        }
        for (int wrong : Ints.outside(0, 0)) {
            refusals.everywhere(excepted, "limited 0, excepted " + wrong, Due.RANGE,
                    x -> x.setQuantities(1, 0, wrong));
        }
        refusals.everywhere(excepted, "1 more than limited", Due.RANGE, x -> x.setQuantities(1, 6, 7));
        refusals.everywhere(excepted, "1 more than 9999", Due.RANGE, x -> x.setQuantities(9, 9999, 10000));
        refusals.everywhere(all, "class and limited", Due.RANGE, x -> x.setQuantities(0, 10001, 0));
        refusals.everywhere(all, "class and excepted", Due.RANGE, x -> x.setQuantities(10, 0, 1));
        refusals.everywhere(all, "all", Due.RANGE, x -> x.setQuantities(0, -1, -2));
    }

    private void promise4() {
        Due due = sentences.of(4, "Bars a class from a deck, or allows it again.");
        Due returns = sentences.of(4, "Returns whether it was barred from it.");
        Due isBarred = sentences.of(4, "`isBarred`: whether it is barred from it");
        DangerousGoods ship = new DangerousGoods();
        ship.add(9, NONE, 1);
        ship.put(0, 47);
        returns.same("at first", ship.bar(9, 1, true), false);
        due.same("isMisplaced, barred", ship.isMisplaced(0), true);
        returns.same("barred again", ship.bar(9, 1, true), true);
        isBarred.same("still barred", ship.isMisplaced(0), true);
        returns.same("the other deck", ship.bar(9, 0, false), false);
        returns.same("another class", ship.bar(8, 1, false), false);
        due.same("isMisplaced, another deck and another class allowed", ship.isMisplaced(0), true);
        returns.same("allowed", ship.bar(9, 1, false), true);
        due.same("isMisplaced, allowed again", ship.isMisplaced(0), false);
        returns.same("allowed again", ship.bar(9, 1, false), false);
        isBarred.same("still allowed", ship.isMisplaced(0), false);
        returns.same("under deck", ship.bar(1, 0, true), false);
        returns.same("on deck", ship.bar(1, 1, true), false);
        returns.same("under deck again", ship.bar(1, 0, false), true);
        returns.same("on deck still", ship.bar(1, 1, false), true);
    }

    /** Each class has two decks of its own: no call may write over another one's. */
    private void promise4Ranges() {
        Due ofClass = sentences.of(4, "`ofClass`: 1 to 9");
        Due deck = sentences.of(4, "`deck`: 0 or 1");
        Due both = sentences.of(4, "Throws `IllegalArgumentException` if ofClass or deck is out of range");
        DangerousGoods ship = new DangerousGoods();
        for (int barred = 1; barred <= 9; barred++) {
            ofClass.same("under deck " + barred, ship.bar(barred, 0, barred % 2 == 0), false);
            deck.same("on deck " + barred, ship.bar(barred, 1, barred % 3 == 0), false);
        }
        for (int barred = 1; barred <= 9; barred++) {
            ofClass.same("under deck again " + barred, ship.bar(barred, 0, true), barred % 2 == 0);
            deck.same("on deck again " + barred, ship.bar(barred, 1, true), barred % 3 == 0);
        }
        for (int wrong : Ints.outside(1, 9)) {
            refusals.everywhere(ofClass, "class " + wrong, Due.RANGE, x -> x.bar(wrong, 0, true));
            refusals.everywhere(ofClass, "allowed class " + wrong, Due.RANGE, x -> x.bar(wrong, 1, false));
        }
        for (int wrong : Ints.outside(0, 1)) {
            refusals.everywhere(deck, "deck " + wrong, Due.RANGE, x -> x.bar(5, wrong, true));
            refusals.everywhere(deck, "allowed deck " + wrong, Due.RANGE, x -> x.bar(5, wrong, false));
        }
        refusals.everywhere(both, "both too small", Due.RANGE, x -> x.bar(0, -1, true));
        refusals.everywhere(both, "both too great", Due.RANGE, x -> x.bar(10, 2, false));
    }

    private void promise5() {
        Due due = sentences.of(5, "Returns the distance of two places.");
        DangerousGoods ship = Ship.ALL_ABOARD.make();
        due.same("goods there do not count", ship.distance(0, 47), 4);
        due.same("nor for the same place", ship.distance(47, 47), 0);
        due.same("nor for the next hold", ship.distance(47, 24), 3);
        due.same("nor for the same hold", ship.distance(36, 47), 2);
        due.same("nor for the same bay", ship.distance(46, 47), 1);
    }

    private void promise5Ranges() {
        Due place = sentences.of(5, "`place`: 0 to 47");
        Due other = sentences.of(5, "`other`: 0 to 47");
        Due both = sentences.of(5, THROWS);
        DangerousGoods ship = new DangerousGoods();
        place.same("the least", ship.distance(0, 24), 4);
        place.same("the greatest", ship.distance(47, 24), 3);
        other.same("the least", ship.distance(24, 0), 4);
        other.same("the greatest", ship.distance(24, 47), 3);
        for (int wrong : Ints.outside(0, 47)) {
            refusals.everywhere(place, "place " + wrong, Due.RANGE, x -> x.distance(wrong, 0));
            refusals.everywhere(other, "other " + wrong, Due.RANGE, x -> x.distance(0, wrong));
            refusals.everywhere(both, "both " + wrong, Due.RANGE, x -> x.distance(wrong, wrong));
        }
        refusals.everywhere(both, "too small and too great", Due.RANGE, x -> x.distance(-1, 48));
    }
}
