import java.util.function.IntSupplier;

/**
 * As many as there may be of each sort, and one more: NONE, nothing changed, no act; refused calls are still refused,
 * and what was taken back can still be done again.
 */
public final class TooManyTest {
    private static final int NONE = SmokeTubes.NONE;

    private static SmokeTubes base() {
        SmokeTubes x = new SmokeTubes();
        x.piece(60, 1);
        x.piece(60, 0);
        x.way(0, 1, 1, 5, 0);
        x.fan(0, 2, 900, 0);
        return x;
    }

    /** From so many on up to the most there may be, each gets the next number; then NONE, however often. */
    private static void fill(String what, SmokeTubes x, int counted, int most, IntSupplier more) {
        for (int number = x.count(counted); number < most; number++) {
            Check.due(what + ": number " + number, more.getAsInt(), number);
        }
        int acts = x.count(11);
        Check.due(what + ": there are " + most, x.count(counted), most);
        Check.due(what + ": one too many", more.getAsInt(), NONE);
        Check.due(what + ": and again", more.getAsInt(), NONE);
        Check.due(what + ": there are " + most + " still", x.count(counted), most);
        Check.due(what + ": too many is no act", x.count(11), acts);
        x.undo();
        Check.due(what + ": one less", x.count(counted), most - 1);
        Check.due(what + ": the last number once more", more.getAsInt(), most - 1);
        Check.due(what + ": again one too many", more.getAsInt(), NONE);
    }

    private static void each() {
        SmokeTubes x = base();
        fill("2 pieces", x, 0, 8, () -> x.piece(7, 2));
        fill("3 ways", x, 1, 12, () -> x.way(0, 7, 1, 1, 0));
        fill("5 fires", x, 2, 4, () -> x.fire(0, 0, 1, 1, 1, 1));
        fill("6 fans", x, 3, 8, () -> x.fan(11, 1, 1, 255));
        fill("9 groups", x, 5, 10, () -> x.group(0, 60, 20));
        fill("11 doors", x, 7, 6, () -> x.door(7, 1, 1));
        fill("30 drills", x, 9, 10, () -> x.drill(20, 600));
        Check.due("43 people in all, the most there can be", x.count(6), 600);
        SmokeTubes y = base();
        fill("7 told for plans", y, 4, 60, () -> y.set(3, 0, 20, -1));
        SmokeTubes z = base();
        fill("35 readings", z, 10, 40, () -> z.reading(0, 20, true));
    }

    /** At most 60 are told in all: not for each plan, or for each fan. */
    private static void toldInAll() {
        SmokeTubes x = base();
        x.fan(0, 1, 1, 0);
        for (int i = 0; i < 60; i++) {
            Check.due("7 in all", x.set(i % 4, i % 2, i % 21, 1 - i % 3), i);
        }
        for (int plan = 0; plan < 4; plan++) {
            for (int fan = 0; fan < 2; fan++) {
                Check.due("7 too many for each plan and fan", x.set(plan, fan, 0, 1), NONE);
            }
        }
    }

    /** What is too many isn't there: a sixty-first, a forty-first, an eleventh that would change an answer. */
    private static void tooManyTellsNothing() {
        SmokeTubes x = base();
        for (int i = 0; i < 60; i++) {
            x.set(0, 0, 5, 0);
        }
        x.set(0, 0, 5, 1);
        Check.due("7 it isn't told", x.air(0, 0, 0, NONE, 0, 5), 0);
        for (int i = 0; i < 40; i++) {
            x.reading(0, 0, false);
        }
        x.reading(0, 0, true);
        Check.due("35 it isn't told", x.fits(0), 16);
        for (int i = 0; i < 10; i++) {
            x.drill(0, 0);
        }
        x.drill(0, 1);
        Check.due("30 it isn't told", x.fit(), 7);
        for (int i = 0; i < 10; i++) {
            x.group(0, 1, 19);
        }
        x.group(0, 1, 0);
        Check.due("9 it isn't there", x.out(0, 0, 0, NONE, 19), 0);
        for (int i = 2; i < 12; i++) {
            x.way(0, 1, 4, 1, 0);
        }
        x.way(0, 1, 4, 1, 0);
        x.way(0, 1, 1, 1, 8);
        Check.due("3 it isn't there", x.air(0, 0, 0, NONE, 11, 0), 0);
    }

    private static void full(String what, IntSupplierOf more) {
        SmokeTubes x = Houses.full();
        Check.due(what, more.of(x), NONE);
        Check.due(what + ", again", more.of(x), NONE);
        Look.same(what, x, Houses.full());
        SmokeTubes y = Houses.full();
        more.of(y);
        Check.due(what + ": what was taken back can be done again", y.redo(), true);
        Check.due(what + ": and the other one", y.redo(), true);
        Check.due(what + ": no more", y.redo(), false);
    }

    private interface IntSupplierOf {
        int of(SmokeTubes x);
    }

    private static void nothingIsOtherwise() {
        full("2 a ninth piece", x -> x.piece(200, 40));
        full("3 a thirteenth way", x -> x.way(0, 4, 4, 40, 8));
        full("5 a fifth fire", x -> x.fire(7, 0, 21, 100000, 100000, 100000));
        full("6 a ninth fan", x -> x.fan(11, 6, 1, 255));
        full("7 a sixty-first told", x -> x.set(0, 0, 0, 1));
        full("9 an eleventh group", x -> x.group(0, 60, 0));
        full("11 a seventh door", x -> x.door(0, 40, 1));
        full("30 an eleventh drill", x -> x.drill(0, 600));
        full("35 a forty-first reading", x -> x.reading(0, 20, true));
    }

    private static void refused(String what, Runnable call, Class<? extends RuntimeException> want) {
        Check.due(what + " even if there are too many", call, want);
    }

    private static void stillRefused() {
        SmokeTubes x = Houses.full();
        refused("2 room", () -> x.piece(201, 0), Check.NOT_SO);
        refused("3 no such piece", () -> x.way(8, 0, 1, 1, 0), Check.NO_SUCH);
        refused("3 both are one", () -> x.way(7, 7, 1, 1, 0), Check.NOT_SO);
        refused("5 no such piece", () -> x.fire(8, 0, 1, 1, 1, 1), Check.NO_SUCH);
        refused("5 ends as it begins", () -> x.fire(7, 1, 1, 1, 1, 1), Check.NOT_SO);
        refused("6 no such way", () -> x.fan(12, 1, 1, 0), Check.NO_SUCH);
        refused("6 the set", () -> x.fan(11, 1, 1, 256), Check.NOT_SO);
        refused("7 no such fan", () -> x.set(0, 8, 0, 0), Check.NO_SUCH);
        refused("7 minute", () -> x.set(0, 7, 21, 0), Check.NOT_SO);
        refused("9 no such piece", () -> x.group(8, 1, 0), Check.NO_SUCH);
        refused("9 people", () -> x.group(7, 61, 0), Check.NOT_SO);
        refused("11 no such piece", () -> x.door(8, 1, 1), Check.NO_SUCH);
        refused("11 cost", () -> x.door(7, 1, 1001), Check.NOT_SO);
        refused("30 people", () -> x.drill(0, 601), Check.NOT_SO);
        refused("35 no such piece", () -> x.reading(8, 0, true), Check.NO_SUCH);
        refused("35 minute", () -> x.reading(7, 21, true), Check.NOT_SO);
        Look.same("refused, full", x, Houses.full());
    }

    public static void main(String[] args) {
        each();
        toldInAll();
        tooManyTellsNothing();
        nothingIsOtherwise();
        stillRefused();
        Check.end("TooManyTest");
    }
}
