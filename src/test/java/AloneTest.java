/** Promises 32 to 37: one alone, readings. */
public final class AloneTest {
    private static final int NONE = SmokeTubes.NONE;

    private static void where(String what, SmokeTubes x, int fire, int piece, int start, int... want) {
        for (int minute = 0; minute < want.length; minute++) {
            Check.due("34 " + what + " at " + minute, x.whereAt(0, 0, 0, fire, piece, start, minute), want[minute]);
        }
    }

    private static void goesOut() {
        SmokeTubes x = new SmokeTubes();
        x.piece(1, 0);
        x.piece(1, 1);
        x.way(0, 1, 2, 1, 0);
        for (int i = 0; i < 10; i++) {
            x.group(0, 60, 0);
        }
        Check.due("32 whatever others do", x.dose(0, 0, 0, NONE, 0, 3), 0);
        Check.due("33 out", x.outAt(0, 0, 0, NONE, 0, 3), 6);
        where("on its way", x, NONE, 0, 3, NONE, NONE, NONE, 0, NONE, 1, NONE, NONE);
        x.walk(3);
        Check.due("33 by walk", x.outAt(0, 0, 0, NONE, 0, 3), 10);
        where("by walk", x, NONE, 0, 3, NONE, NONE, NONE, 0, NONE, NONE, NONE, NONE, NONE, 1, NONE);
        Check.due("33 the last minute to go", x.outAt(0, 0, 0, NONE, 0, 13), 20);
        Check.due("33 too late", x.outAt(0, 0, 0, NONE, 0, 14), NONE);
        Check.due("32 too late", x.dose(0, 0, 0, NONE, 0, 14), NONE);
        where("too late", x, NONE, 0, 14, NONE, NONE, NONE, NONE, NONE, NONE, NONE, NONE, NONE, NONE, NONE, NONE, NONE,
            NONE, NONE, NONE, NONE, NONE, NONE, NONE, NONE);
        Check.due("33 in 19", x.outAt(0, 0, 0, NONE, 1, 19), 20);
        Check.due("33 in 20", x.outAt(0, 0, 0, NONE, 1, 20), NONE);
        x.door(0, 1, 1);
        Check.due("33 a door that isn't made", x.outAt(0, 0, 0, NONE, 0, 3), 10);
        x.make(0, true);
        Check.due("33 a door that is made", x.outAt(0, 0, 0, NONE, 0, 3), 4);
        where("a door", x, NONE, 0, 3, NONE, NONE, NONE, 0, NONE, NONE);
    }

    /**
     * Piece 2 with an out has 52 mixed a minute behind the fire and 27 in the next one: a draught of 6 towards piece 3
     * stirs up what the fire gave. From piece 0 it can be reached at once, or by way of piece 1.
     */
    private static SmokeTubes waits(int from) {
        SmokeTubes x = new SmokeTubes();
        x.piece(9, 0);
        x.piece(9, 0);
        x.piece(9, 1);
        x.piece(9, 0);
        x.way(0, 1, 1, 1, 0);
        x.way(1, 2, 1, 1, 0);
        x.way(0, 2, 1, 1, 0);
        x.way(2, 3, 1, 1, 6);
        x.fire(2, from, from + 1, 100, 0, 100);
        return x;
    }

    private static void leastDose() {
        SmokeTubes x = waits(0);
        Check.due("15 mixed at 1", x.smoke(0, 0, 0, 0, 2, 1, false), 52);
        Check.due("15 mixed at 2", x.smoke(0, 0, 0, 0, 2, 2, false), 27);
        long dose = x.dose(0, 0, 0, 0, 0, 0);
        Check.yes("32 less than at once", dose <= 27);
        x.eyes(51);
        Check.due("32 the same, where going at once is barred", x.dose(0, 0, 0, 0, 0, 0), dose);
        x.eyes(1);
        Check.due("32 shut too long", x.dose(0, 0, 0, 0, 2, 1), NONE);
        Check.due("32 out at once in 0", x.dose(0, 0, 0, 0, 2, 0), 0);
        Check.due("33 out at once in 0", x.outAt(0, 0, 0, 0, 2, 0), 1);
        SmokeTubes fork = new SmokeTubes();
        fork.piece(9, 0);
        fork.piece(9, 1);
        fork.fire(1, 0, 1, 100, 0, 100);
        fork.way(0, 1, 1, 1, 0);
        fork.piece(9, 1);
        fork.way(0, 2, 4, 1, 0);
        Check.due("32 the farther one with the less dose", fork.dose(0, 0, 0, 0, 0, 0), 0);
        Check.due("33 the farther one", fork.outAt(0, 0, 0, 0, 0, 0), 5);
        Check.due("33 none burns: the first out", fork.outAt(0, 0, 0, NONE, 0, 0), 2);
    }

    /** Four minutes are as good by each way; what is done first decides. */
    private static void likeOnes() {
        SmokeTubes x = new SmokeTubes();
        for (int i = 0; i < 4; i++) {
            x.piece(9, i == 3 ? 1 : 0);
        }
        x.way(2, 0, 1, 1, 0);
        x.way(0, 1, 1, 1, 0);
        x.way(1, 3, 1, 1, 0);
        x.way(3, 2, 1, 1, 0);
        where("the lesser way", x, NONE, 0, 0, 0, 2, 3, NONE);
        x.undo();
        x.undo();
        x.undo();
        x.undo();
        x.way(0, 1, 1, 1, 0);
        x.way(2, 0, 1, 1, 0);
        x.way(1, 3, 1, 1, 0);
        x.way(3, 2, 1, 1, 0);
        where("the lesser way", x, NONE, 0, 0, 0, 1, 3, NONE);
        SmokeTubes stay = waits(17);
        Check.due("32 the less dose, though it is out later", stay.dose(0, 0, 0, 0, 0, 17), 27);
        Check.due("33 in the last minute", stay.outAt(0, 0, 0, 0, 0, 17), 20);
        Check.due("34 staying goes ahead of a way", stay.whereAt(0, 0, 0, 0, 0, 17, 18), 0);
        Check.due("34 then by way 2", stay.whereAt(0, 0, 0, 0, 0, 17, 19), 2);
        Check.due("34 out", stay.whereAt(0, 0, 0, 0, 0, 17, 20), NONE);
        stay.eyes(26);
        Check.due("32 shut", stay.dose(0, 0, 0, 0, 0, 17), NONE);
        stay.eyes(27);
        Check.due("32 not shut in 19", stay.dose(0, 0, 0, 0, 0, 17), 27);
        SmokeTubes turns = new SmokeTubes();
        turns.piece(9, 0);
        turns.piece(9, 0);
        Check.due("33 no out at all", turns.outAt(0, 0, 0, NONE, 0, 0), NONE);
    }

    private static void wrongAlone() {
        SmokeTubes x = waits(0);
        int[][] wrong = {{-1, 0, 0, 1}, {4, 0, 0, 1}, {0, -1, 0, 1}, {0, 4, 0, 1}, {0, 0, -1, 1}, {0, 0, 22, 1},
            {0, 0, 0, -1}, {0, 0, 0, 21}};
        for (int[] w : wrong) {
            Check.due("32", () -> x.dose(w[0], w[1], w[2], 0, 0, w[3]), Check.NOT_SO);
            Check.due("33", () -> x.outAt(w[0], w[1], w[2], 0, 0, w[3]), Check.NOT_SO);
            Check.due("34", () -> x.whereAt(w[0], w[1], w[2], 0, 0, w[3], 0), Check.NOT_SO);
            Check.due("32 piece", () -> x.dose(w[0], w[1], w[2], 0, 4, w[3]), Check.NO_SUCH);
            Check.due("33 piece", () -> x.outAt(w[0], w[1], w[2], 0, -1, w[3]), Check.NO_SUCH);
            Check.due("34 piece", () -> x.whereAt(w[0], w[1], w[2], 0, 4, w[3], 99), Check.NO_SUCH);
            Check.due("32 fire", () -> x.dose(w[0], w[1], w[2], 1, 0, w[3]), Check.NO_SUCH);
            Check.due("33 fire", () -> x.outAt(w[0], w[1], w[2], -2, 0, w[3]), Check.NO_SUCH);
            Check.due("34 fire", () -> x.whereAt(w[0], w[1], w[2], 1, 0, w[3], 99), Check.NO_SUCH);
        }
        Check.due("34 minute", () -> x.whereAt(0, 0, 0, 0, 0, 0, 21), Check.NOT_SO);
        Check.due("34 minute", () -> x.whereAt(0, 0, 0, 0, 0, 0, -1), Check.NOT_SO);
    }

    /** Fires 0 and 1 in piece 0, of which the second begins in 5; fire 2 in piece 1. Nothing goes between. */
    private static SmokeTubes three() {
        SmokeTubes x = new SmokeTubes();
        x.piece(9, 0);
        x.piece(9, 0);
        x.fire(0, 0, 21, 10, 0, 10);
        x.fire(0, 5, 21, 10, 0, 10);
        x.fire(1, 2, 21, 10, 0, 10);
        return x;
    }

    private static void readings() {
        SmokeTubes x = three();
        Check.due("36 all fit", x.fits(0), 23);
        Check.due("35 the first", x.reading(0, 5, false), 0);
        Check.due("36 fire 0 would have told", x.fits(3), 22);
        Check.due("35 the second", x.reading(0, 6, true), 1);
        Check.due("36 fire 1 alone", x.fits(0), 2);
        Check.due("35 the third", x.reading(1, 20, true), 2);
        Check.due("36 none fits", x.fits(0), 0);
        x.undo();
        x.gauges(0, 11, 1);
        Check.due("36 by the mark that is", x.fits(0), 0);
        x.undo();
        x.undo();
        x.undo();
        x.gauges(0, 10, 1);
        x.reading(0, 1, true);
        Check.due("36 as much as mark", x.fits(0), 1);
        Check.due("36 plan 4", () -> x.fits(4), Check.NOT_SO);
        Check.due("36 plan -1", () -> x.fits(-1), Check.NOT_SO);
        Check.due("35 no such piece", () -> x.reading(2, 21, true), Check.NO_SUCH);
        Check.due("35 minute 21", () -> x.reading(0, 21, true), Check.NOT_SO);
        Check.due("35 minute -1", () -> x.reading(0, -1, true), Check.NOT_SO);
        for (int i = 1; i < 40; i++) {
            Check.due("35 told", x.reading(0, 0, false), i);
        }
        Check.due("35 the forty-first", x.reading(0, 0, true), NONE);
        Check.due("35 wrong even then", () -> x.reading(0, 21, true), Check.NOT_SO);
        Check.due("36 it wasn't told", x.fits(0), 1);
    }

    private static void next() {
        SmokeTubes x = three();
        Check.due("37 no gauges", x.next(0), NONE);
        x.gauges(3, 1, 0);
        Check.due("37 two of four in piece 0 from 6 on", x.next(0), 8 * 6);
        x.gauges(2, 1, 5);
        Check.due("37 one of four in piece 1 from 3 on", x.next(0), 8 * 3 + 1);
        x.gauges(3, 1, 0);
        x.reading(0, 6, false);
        Check.due("36 two are left", x.fits(0), 20);
        Check.due("37 one of two in piece 1", x.next(0), 8 * 3 + 1);
        x.gauges(1, 1, 0);
        Check.due("37 it doesn't tell them apart: the earliest", x.next(0), 0);
        x.reading(1, 20, false);
        Check.due("37 one is left", x.next(0), NONE);
        x.undo();
        x.undo();
        x.undo();
        x.gauges(3, 1000, 0);
        Check.due("37 the mark is never there", x.next(0), 0);
        Check.due("37 plan 4", () -> x.next(4), Check.NOT_SO);
        Check.due("37 plan -1", () -> x.next(-1), Check.NOT_SO);
        SmokeTubes like = new SmokeTubes();
        like.piece(9, 0);
        like.piece(9, 0);
        like.way(0, 1, 1, 1, 0);
        like.fire(0, 0, 1, 80, 0, 80);
        like.gauges(3, 1, 0);
        Check.due("37 in both pieces at 1: the lesser", like.next(0), 8);
        like.gauges(2, 1, 0);
        Check.due("37 in piece 1 at 1", like.next(0), 9);
    }

    public static void main(String[] args) {
        goesOut();
        leastDose();
        likeOnes();
        wrongAlone();
        readings();
        next();
        Check.end("AloneTest");
    }
}
