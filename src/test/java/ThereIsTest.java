/** Promises 1 to 13: what there is. */
public final class ThereIsTest {
    private static final int BIG = Integer.MAX_VALUE;
    private static final int SMALL = Integer.MIN_VALUE;

    private static SmokeTubes withPieces(int many) {
        SmokeTubes x = new SmokeTubes();
        for (int i = 0; i < many; i++) {
            x.piece(10, i % 2);
        }
        return x;
    }

    private static SmokeTubes withWay() {
        SmokeTubes x = withPieces(2);
        x.way(0, 1, 1, 5, 0);
        return x;
    }

    private static void aNewObject() {
        SmokeTubes x = new SmokeTubes();
        for (int what = 0; what <= 12; what++) {
            Check.due("1 count of a new one, " + what, x.count(what), 0);
        }
        Check.due("1 eyes at first", x.eyes(5), 1000);
        Check.due("1 walk at first", x.walk(2), 1);
        Check.due("1 no gauges at first", x.next(0), SmokeTubes.NONE);
        for (int row = 0; row < 4; row++) {
            int missing = row;
            Check.due("1 rows are missing", () -> x.write(missing, 0, 0), Check.STATE);
        }
        SmokeTubes marked = withPieces(1);
        marked.fire(0, 0, 1, 1, 0, 1);
        marked.reading(0, 1, true);
        Check.due("1 mark 1 at first", marked.fits(0), 1);
        Check.due("1 NONE", SmokeTubes.NONE, -1);
    }

    private static void piece() {
        SmokeTubes x = new SmokeTubes();
        Check.due("2 room 0", () -> x.piece(0, 0), Check.NOT_SO);
        Check.due("2 room 201", () -> x.piece(201, 0), Check.NOT_SO);
        Check.due("2 width -1", () -> x.piece(1, -1), Check.NOT_SO);
        Check.due("2 width 41", () -> x.piece(1, 41), Check.NOT_SO);
        Check.due("2 far off", () -> x.piece(SMALL, BIG), Check.NOT_SO);
        Check.due("2 none came", x.count(0), 0);
        Check.due("2 the first", x.piece(1, 0), 0);
        Check.due("2 the second", x.piece(200, 40), 1);
        for (int i = 2; i < 8; i++) {
            Check.due("2 the others", x.piece(3, 3), i);
        }
        Check.due("2 the ninth", x.piece(3, 3), SmokeTubes.NONE);
        Check.due("2 wrong even if there are 8", () -> x.piece(0, 3), Check.NOT_SO);
        Check.due("2 there are 8", x.count(0), 8);
        Check.due("2 a ninth is no act", x.count(11), 8);
    }

    private static void way() {
        SmokeTubes x = withPieces(2);
        Check.due("3 no such first piece", () -> x.way(2, 1, 1, 1, 0), Check.NO_SUCH);
        Check.due("3 no such other piece", () -> x.way(0, -1, 1, 1, 0), Check.NO_SUCH);
        Check.due("3 no such piece goes first", () -> x.way(2, 2, 0, 0, 9), Check.NO_SUCH);
        Check.due("3 both are one", () -> x.way(1, 1, 1, 1, 0), Check.NOT_SO);
        int[][] wrong = {{0, 1, 0}, {5, 1, 0}, {1, 0, 0}, {1, 41, 0}, {1, 1, -9}, {1, 1, 9}, {BIG, BIG, SMALL}};
        for (int[] w : wrong) {
            Check.due("3 it can't be so", () -> x.way(0, 1, w[0], w[1], w[2]), Check.NOT_SO);
        }
        Check.due("3 none came", x.count(1), 0);
        Check.due("3 the first", x.way(0, 1, 1, 1, -8), 0);
        Check.due("3 the second", x.way(1, 0, 4, 40, 8), 1);
        for (int i = 2; i < 12; i++) {
            Check.due("3 the others", x.way(0, 1, 2, 2, 0), i);
        }
        Check.due("3 the thirteenth", x.way(0, 1, 2, 2, 0), SmokeTubes.NONE);
        Check.due("3 wrong even if there are 12", () -> x.way(0, 1, 2, 2, 9), Check.NOT_SO);
        Check.due("3 no such one even then", () -> x.way(0, 2, 2, 2, 0), Check.NO_SUCH);
        Check.due("3 there are 12", x.count(1), 12);
    }

    private static void water() {
        SmokeTubes x = withPieces(2);
        Check.due("4 no such piece", () -> x.water(2, 30), Check.NO_SUCH);
        Check.due("4 minute -1", () -> x.water(1, -1), Check.NOT_SO);
        Check.due("4 minute 22", () -> x.water(1, 22), Check.NOT_SO);
        Check.due("4 never at first", x.water(1, 0), 21);
        Check.due("4 from 0", x.water(1, 21), 0);
        Check.due("4 never again", x.water(1, 7), 21);
        Check.due("4 the other piece", x.water(0, 3), 21);
    }

    private static void fire() {
        SmokeTubes x = withPieces(1);
        Check.due("5 no such piece", () -> x.fire(1, 9, 3, -1, -1, -1), Check.NO_SUCH);
        int[][] wrong = {{-1, 3, 1, 1, 1}, {21, 22, 1, 1, 1}, {3, 3, 1, 1, 1}, {3, 2, 1, 1, 1}, {3, 22, 1, 1, 1},
            {0, 1, -1, 1, 1}, {0, 1, 100001, 1, 1}, {0, 1, 1, -1, 1}, {0, 1, 1, 100001, 1}, {0, 1, 1, 1, -1},
            {0, 1, 1, 1, 100001}, {BIG, SMALL, 1, 1, 1}};
        for (int[] w : wrong) {
            Check.due("5 it can't be so", () -> x.fire(0, w[0], w[1], w[2], w[3], w[4]), Check.NOT_SO);
        }
        Check.due("5 the first", x.fire(0, 0, 21, 0, 0, 0), 0);
        Check.due("5 the second", x.fire(0, 20, 21, 100000, 100000, 100000), 1);
        Check.due("5 the third", x.fire(0, 2, 5, 10, 20, 45), 2);
        Check.due("5 the fourth", x.fire(0, 19, 20, 1, 1, 1), 3);
        Check.due("5 the fifth", x.fire(0, 0, 1, 1, 1, 1), SmokeTubes.NONE);
        Check.due("5 wrong even if there are 4", () -> x.fire(0, 0, 0, 1, 1, 1), Check.NOT_SO);
        int[] gave = {0, 0, 0, 10, 40, 85, 85, 85};
        for (int minute = 0; minute < gave.length; minute++) {
            Check.due("5 gives", x.given(0, 0, 0, 2, minute, 0), gave[minute]);
        }
        Check.due("5 ends ahead of 20", x.given(0, 0, 0, 3, 20, 0), 1);
        Check.due("5 gives in 20 and is not asked behind it", x.given(0, 0, 0, 1, 20, 0), 0);
    }

    private static void fan() {
        SmokeTubes x = withWay();
        Check.due("6 no such way", () -> x.fan(1, 0, 0, 99), Check.NO_SUCH);
        int[][] wrong = {{0, 1, 0}, {7, 1, 0}, {1, 0, 0}, {1, 1000001, 0}, {1, 1, 4}, {1, 1, -1}, {1, 1, SMALL}};
        for (int[] w : wrong) {
            Check.due("6 it can't be so", () -> x.fan(0, w[0], w[1], w[2]), Check.NOT_SO);
        }
        Check.due("6 the first", x.fan(0, 1, 1, 0), 0);
        Check.due("6 the second", x.fan(0, 6, 1000000, 3), 1);
        for (int i = 2; i < 8; i++) {
            Check.due("6 the others", x.fan(0, 2, 2, 1), i);
        }
        Check.due("6 the ninth", x.fan(0, 2, 2, 1), SmokeTubes.NONE);
        Check.due("6 wrong even if there are 8", () -> x.fan(0, 2, 2, 4), Check.NOT_SO);
    }

    private static void set() {
        SmokeTubes x = withWay();
        x.fan(0, 1, 1, 0);
        Check.due("7 no such fan", () -> x.set(9, 1, 99, 9), Check.NO_SUCH);
        int[][] wrong = {{-1, 0, 0}, {4, 0, 0}, {0, -1, 0}, {0, 21, 0}, {0, 0, 2}, {0, 0, -2}};
        for (int[] w : wrong) {
            Check.due("7 it can't be so", () -> x.set(w[0], 0, w[1], w[2]), Check.NOT_SO);
        }
        for (int i = 0; i < 60; i++) {
            Check.due("7 told", x.set(i % 4, 0, i % 21, i % 3 - 1), i);
        }
        Check.due("7 the sixty-first", x.set(0, 0, 0, 0), SmokeTubes.NONE);
        Check.due("7 wrong even then", () -> x.set(4, 0, 0, 0), Check.NOT_SO);
        Check.due("7 told in all", x.count(4), 60);
    }

    private static void eyesAndWalk() {
        SmokeTubes x = new SmokeTubes();
        Check.due("8 -1", () -> x.eyes(-1), Check.NOT_SO);
        Check.due("8 too much", () -> x.eyes(1000001), Check.NOT_SO);
        Check.due("8 what it was", x.eyes(0), 1000);
        Check.due("8 what it was", x.eyes(1000000), 0);
        Check.due("8 what it was", x.eyes(1), 1000000);
        Check.due("10 0", () -> x.walk(0), Check.NOT_SO);
        Check.due("10 4", () -> x.walk(4), Check.NOT_SO);
        Check.due("10 what it was", x.walk(3), 1);
        Check.due("10 what it was", x.walk(1), 3);
    }

    private static void group() {
        SmokeTubes x = withPieces(1);
        Check.due("9 no such piece", () -> x.group(1, 0, 99), Check.NO_SUCH);
        int[][] wrong = {{0, 0}, {61, 0}, {1, -1}, {1, 21}};
        for (int[] w : wrong) {
            Check.due("9 it can't be so", () -> x.group(0, w[0], w[1]), Check.NOT_SO);
        }
        Check.due("9 the first", x.group(0, 1, 0), 0);
        for (int i = 1; i < 10; i++) {
            Check.due("9 the others", x.group(0, 60, 20), i);
        }
        Check.due("9 the eleventh", x.group(0, 1, 1), SmokeTubes.NONE);
        Check.due("9 wrong even then", () -> x.group(0, 0, 1), Check.NOT_SO);
        Check.due("9 people", x.count(6), 541);
    }

    private static void doors() {
        SmokeTubes x = withPieces(1);
        Check.due("11 no such piece", () -> x.door(1, 0, 0), Check.NO_SUCH);
        int[][] wrong = {{0, 1}, {41, 1}, {1, 0}, {1, 1001}};
        for (int[] w : wrong) {
            Check.due("11 it can't be so", () -> x.door(0, w[0], w[1]), Check.NOT_SO);
        }
        Check.due("12 no door yet", () -> x.make(0, true), Check.NO_SUCH);
        for (int i = 0; i < 6; i++) {
            Check.due("11 a door more", x.door(0, i == 0 ? 40 : 1, i == 0 ? 1000 : 1), i);
        }
        Check.due("11 the seventh", x.door(0, 1, 1), SmokeTubes.NONE);
        Check.due("11 wrong even then", () -> x.door(0, 1, 0), Check.NOT_SO);
        Check.due("12 no such door", () -> x.make(6, true), Check.NO_SUCH);
        Check.due("12 no such door", () -> x.make(-1, true), Check.NO_SUCH);
        Check.due("12 not at first", x.make(5, true), false);
        Check.due("12 made", x.make(5, true), true);
        Check.due("12 one is made", x.count(8), 1);
        Check.due("12 made", x.make(5, false), true);
        Check.due("12 not made", x.make(5, false), false);
        Check.due("12 none is made", x.count(8), 0);
    }

    private static void gauges() {
        SmokeTubes x = withPieces(2);
        int[][] wrong = {{4, 1, 1}, {-1, 1, 1}, {0, 0, 1}, {0, 1000001, 1}, {0, 1, -1}, {0, 1, 6}};
        for (int[] w : wrong) {
            Check.due("13 it can't be so", () -> x.gauges(w[0], w[1], w[2]), Check.NOT_SO);
        }
        x.fire(0, 0, 21, 100, 0, 100);
        Check.due("13 none: nothing to ask", x.next(0), SmokeTubes.NONE);
        x.gauges(3, 1000000, 5);
        Check.due("13 the mark is never there: minute 0", x.next(0), 0);
        x.gauges(2, 1, 0);
        Check.due("13 only in piece 1, where nothing comes", x.next(0), 1);
        x.gauges(1, 1, 0);
        Check.due("13 in piece 0 from minute 1 on", x.next(0), 8);
        Check.due("13 lag 0", x.alike(0, 1, 0, SmokeTubes.NONE), false);
        x.gauges(1, 1, 5);
        Check.due("13 lag 5", x.alike(0, 5, 0, SmokeTubes.NONE), true);
        Check.due("13 lag 5", x.alike(0, 6, 0, SmokeTubes.NONE), false);
        x.gauges(1, 100, 0);
        Check.due("13 mark 100 at 1", x.alike(0, 1, 0, SmokeTubes.NONE), false);
        x.gauges(1, 101, 0);
        Check.due("13 mark 101 not at 1", x.alike(0, 1, 0, SmokeTubes.NONE), true);
        Check.due("13 mark 101 at 2", x.alike(0, 2, 0, SmokeTubes.NONE), false);
    }

    public static void main(String[] args) {
        aNewObject();
        piece();
        way();
        water();
        fire();
        fan();
        set();
        eyesAndWalk();
        group();
        doors();
        gauges();
        Check.end("ThereIsTest");
    }
}
