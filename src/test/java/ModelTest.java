/** Long runs of calls, right and wrong ones, on the class and on the model: each answer has to be the same. */
public final class ModelTest {
    private static final int RUNS = 300;
    private static final int CALLS = 512;
    private static final int[] ODD = {-1, -2, 0, 1, 4, 5, 9, 10, 15, 16, 47, 48, 10000, 10001,
        Integer.MIN_VALUE, Integer.MAX_VALUE};
    private static final int[] QUANTITIES = {1, 2, 3, 4, 5, 6, 10000};

    private interface Answer {
        Object give();
    }

    private final Due due;
    private final int run;
    private final DangerousGoods ship = new DangerousGoods();
    private final Model model = new Model();
    private long state;

    private ModelTest(Due due, int run) {
        this.due = due;
        this.run = run;
        this.state = run * 7919L + 17;
    }

    /** The runs have to be the same ones each time, so the numbers come from a formula. */
    private int draw(int bound) {
        state = state * 6364136223846793005L + 1442695040888963407L;
        return (int) ((state >>> 33) % bound);
    }

    /** Mostly a number from the range, now and then one that may be wrong. */
    private int from(int least, int greatest) {
        return draw(25) == 0 ? ODD[draw(ODD.length)] : least + draw(greatest - least + 1);
    }

    private int someGoods() {
        return from(0, Math.max(0, model.goods() - 1));
    }

    private int someQuantity() {
        return draw(25) == 0 ? ODD[draw(ODD.length)] : QUANTITIES[draw(QUANTITIES.length)];
    }

    /** A few runs crowd their goods into few places, so that there are many breaches. */
    private int somePlace() {
        if (draw(8) == 0) {
            return -1;
        }
        return run % 3 == 0 ? from(0, 5) : from(0, 47);
    }

    private static String told(Answer answer) {
        try {
            return String.valueOf(answer.give());
        } catch (RuntimeException e) {
            return e.getClass().getSimpleName();
        }
    }

    private void same(String call, Answer ofShip, Answer ofModel) {
        due.same("run " + run + ": " + call, told(ofShip), told(ofModel));
    }

    private void ruleCall(int kind) {
        int one = from(1, 9);
        int other = from(1, 9);
        int distance = from(0, 4);
        int limited = draw(3) == 0 ? 0 : someQuantity();
        int excepted = draw(2) == 0 ? 0 : someQuantity();
        boolean isBarred = draw(3) == 0;
        int deck = from(0, 1);
        int place = from(0, 47);
        int otherPlace = from(0, 47);
        switch (kind) {
            case 0 -> same("setDistance " + one + " " + other + " " + distance,
                () -> ship.setDistance(one, other, distance), () -> model.setDistance(one, other, distance));
            case 1 -> same("setQuantities " + one + " " + limited + " " + excepted, () -> {
                ship.setQuantities(one, limited, excepted);
                return "set";
            }, () -> {
                model.setQuantities(one, limited, excepted);
                return "set";
            });
            case 2 -> same("bar " + one + " " + deck + " " + isBarred,
                () -> ship.bar(one, deck, isBarred), () -> model.bar(one, deck, isBarred));
            default -> same("distance " + place + " " + otherPlace,
                () -> ship.distance(place, otherPlace), () -> model.distance(place, otherPlace));
        }
    }

    private void goodsCall(int kind) {
        int goods = someGoods();
        int other = someGoods();
        int ofClass = from(1, 9);
        int subsidiary = draw(2) == 0 ? -1 : from(1, 9);
        int quantity = someQuantity();
        int place = somePlace();
        switch (kind) {
            case 0 -> same("add " + ofClass + " " + subsidiary + " " + quantity,
                () -> ship.add(ofClass, subsidiary, quantity), () -> model.add(ofClass, subsidiary, quantity));
            case 1 -> same("setQuantity " + goods + " " + quantity,
                () -> ship.setQuantity(goods, quantity), () -> model.setQuantity(goods, quantity));
            case 2 -> same("goods", () -> ship.goods(), () -> model.goods());
            case 3 -> same("placeOf " + goods, () -> ship.placeOf(goods), () -> model.placeOf(goods));
            case 4 -> same("isLimited " + goods, () -> ship.isLimited(goods), () -> model.isLimited(goods));
            case 5 -> same("isExcepted " + goods, () -> ship.isExcepted(goods), () -> model.isExcepted(goods));
            case 6 -> same("need " + goods + " " + other,
                () -> ship.need(goods, other), () -> model.need(goods, other));
            default -> same("put " + goods + " " + place,
                () -> ship.put(goods, place), () -> model.put(goods, place));
        }
    }

    private void planCall(int kind) {
        int goods = someGoods();
        int other = someGoods();
        int place = from(0, 47);
        switch (kind) {
            case 0 -> same("areInBreach " + goods + " " + other,
                () -> ship.areInBreach(goods, other), () -> model.areInBreach(goods, other));
            case 1 -> same("isMisplaced " + goods, () -> ship.isMisplaced(goods), () -> model.isMisplaced(goods));
            case 2 -> same("breaches", () -> ship.breaches(), () -> model.breaches());
            case 3 -> same("inBreachWith " + goods,
                () -> ship.inBreachWith(goods), () -> model.inBreachWith(goods));
            case 4 -> same("isClean", () -> ship.isClean(), () -> model.isClean());
            case 5 -> same("canPut " + goods + " " + place,
                () -> ship.canPut(goods, place), () -> model.canPut(goods, place));
            case 6 -> same("placeFor " + goods, () -> ship.placeFor(goods), () -> model.placeFor(goods));
            case 7 -> same("fewest", () -> ship.fewest(), () -> model.fewest());
            default -> same("leaving", () -> ship.leaving(), () -> model.leaving());
        }
    }

    private void play() {
        for (int call = 0; call < CALLS; call++) {
            int group = draw(6);
            if (group == 0) {
                ruleCall(draw(4));
            } else if (group <= 3) {
                goodsCall(draw(12));
            } else {
                planCall(draw(9));
            }
        }
    }

    public static void main(String[] args) {
        Due due = new Due("ModelTest");
        for (int run = 0; run < RUNS; run++) {
            new ModelTest(due, run).play();
        }
        due.end();
    }
}
