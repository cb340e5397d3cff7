import java.util.EnumMap;
import java.util.Map;
import java.util.function.Consumer;
import java.util.function.ObjIntConsumer;

/** Calls that are refused, made on every kind of ship: the exception is the due one, and nothing is changed. */
final class Refusals {
    private final Due keeps;
    private final Map<Ship, String> rules = new EnumMap<>(Ship.class);
    private final Map<Ship, String> goods = new EnumMap<>(Ship.class);

    Refusals(Sentences sentences) {
        keeps = sentences.of("Terms", "A call that throws changes nothing.");
    }

    private String rulesOf(Ship kind) {
        return rules.computeIfAbsent(kind, ship -> State.ofRules(ship.make()));
    }

    private String goodsOf(Ship kind) {
        return goods.computeIfAbsent(kind, ship -> State.ofGoods(ship.make()));
    }

    void on(Ship kind, Due due, String call, String exception, Consumer<DangerousGoods> made) {
        String where = call + " on " + kind;
        DangerousGoods first = kind.make();
        due.fails(where, exception, () -> made.accept(first));
        keeps.same(where + " then the rules", State.ofRules(first), rulesOf(kind));
        DangerousGoods second = kind.make();
        due.fails(where, exception, () -> made.accept(second));
        keeps.same(where + " then the goods", State.ofGoods(second), goodsOf(kind));
    }

    void everywhere(Due due, String call, String exception, Consumer<DangerousGoods> made) {
        for (Ship kind : Ship.values()) {
            on(kind, due, call, exception, made);
        }
    }

    /** With each kind of number that no goods have. */
    void ofNoGoods(Due due, String call, ObjIntConsumer<DangerousGoods> made) {
        for (Ship kind : Ship.values()) {
            for (int number : Ints.outside(0, kind.count - 1)) {
                on(kind, due, call + ", of goods " + number, Due.NO_GOODS, ship -> made.accept(ship, number));
            }
        }
    }

    /** With the first and the last goods of each ship that has some. */
    void ofGoods(Due due, String call, String exception, ObjIntConsumer<DangerousGoods> made) {
        for (Ship kind : Ship.values()) {
            for (int number = 0; number < kind.count; number += Math.max(1, kind.count - 1)) {
                int asked = number;
                on(kind, due, call + ", of goods " + asked, exception, ship -> made.accept(ship, asked));
            }
        }
    }
}
