/** Promises 14 to 18: air and smoke. */
public final class SmokeTest {
    private static final int NONE = SmokeTubes.NONE;

    /** Two pieces without an out, joined by a way with a draught; a fire in one that gives 800 in minute 0. */
    private static SmokeTubes two(int draught, int burning) {
        SmokeTubes x = new SmokeTubes();
        x.piece(10, 0);
        x.piece(10, 0);
        x.way(0, 1, 1, 5, draught);
        x.fire(burning, 0, 1, 800, 0, 1000);
        return x;
    }

    private static void above(SmokeTubes x, int piece, int minute, int want) {
        Check.due("15 above in " + piece + " at " + minute, x.smoke(0, 0, 0, 0, piece, minute, true), want);
    }

    private static void mixed(SmokeTubes x, int piece, int minute, int want) {
        Check.due("15 mixed in " + piece + " at " + minute, x.smoke(0, 0, 0, 0, piece, minute, false), want);
    }

    private static void airOfPlans() {
        SmokeTubes x = two(1, 0);
        x.fan(0, 3, 1000000, 0);
        Check.due("14 off without any", x.air(0, 0, 0, NONE, 0, 5), 1);
        x.set(0, 0, 5, 1);
        x.set(0, 0, 3, -1);
        x.set(0, 0, 5, 0);
        x.set(1, 0, 0, 1);
        int[] air = {1, 1, 1, -2, -2, 1, 1};
        for (int minute = 0; minute < air.length; minute++) {
            Check.due("14 plan 0 at " + minute, x.air(0, 0, 0, NONE, 0, minute), air[minute]);
        }
        x.set(0, 0, 5, 1);
        Check.due("14 of like ones that told last", x.air(0, 0, 0, NONE, 0, 5), 4);
        x.set(0, 0, 4, 0);
        Check.due("14 the latest minute counts, not that told last", x.air(0, 0, 0, NONE, 0, 20), 4);
        Check.due("14 from 4 on", x.air(0, 0, 0, NONE, 0, 4), 1);
        Check.due("14 the other plan from k on", x.air(0, 1, 3, NONE, 0, 3), 4);
        Check.due("14 the first one ahead of k", x.air(0, 1, 3, NONE, 0, 2), 1);
        Check.due("14 k 21: the first one alone", x.air(0, 1, 21, NONE, 0, 20), 4);
        Check.due("14 k 21: the first one alone", x.air(0, 1, 21, NONE, 0, 3), -2);
        Check.due("14 k 0: the other one alone", x.air(0, 2, 0, NONE, 0, 3), 1);
    }

    private static void airHasEnds() {
        SmokeTubes x = two(8, 0);
        for (int fan = 0; fan < 4; fan++) {
            x.fan(0, 6, 1000000, 0);
            x.set(0, fan, 0, 1);
            x.set(1, fan, 0, -1);
        }
        Check.due("14 not above 12", x.air(0, 0, 0, NONE, 0, 0), 12);
        Check.due("14 not below -12", x.air(1, 1, 0, NONE, 0, 0), -12);
        x.set(1, 3, 0, 0);
        x.set(1, 2, 0, 1);
        Check.due("14 together first", x.air(1, 1, 0, NONE, 0, 0), 2);
        x.way(1, 0, 1, 1, -3);
        Check.due("14 another way's own air", x.air(0, 0, 0, NONE, 1, 0), -3);
    }

    private static void goesAbove() {
        SmokeTubes x = two(0, 0);
        above(x, 0, 0, 0);
        above(x, 0, 1, 525);
        mixed(x, 0, 1, 175);
        above(x, 1, 1, 100);
        mixed(x, 1, 1, 0);
        above(x, 0, 2, 525 - 65 - 115 + 12);
        mixed(x, 0, 2, 175 + 115);
        above(x, 1, 2, 100 - 12 - 22 + 65);
        mixed(x, 1, 2, 22);
        SmokeTubes blocked = two(-4, 0);
        above(blocked, 1, 1, 0);
        above(blocked, 0, 1, 600);
        mixed(blocked, 0, 1, 200);
        SmokeTubes notYet = two(-3, 0);
        above(notYet, 1, 1, 100);
        SmokeTubes other = two(4, 1);
        above(other, 0, 1, 0);
        SmokeTubes away = two(4, 0);
        above(away, 1, 1, 100);
        SmokeTubes many = two(0, 0);
        for (int way = 1; way < 9; way++) {
            many.way(1, 0, 1, 5, 0);
        }
        above(many, 0, 1, 0);
        mixed(many, 0, 1, 0);
        above(many, 1, 1, 800);
        Check.due("16 nothing was left for more", many.given(0, 0, 0, 0, 1, 3), 800);
    }

    private static void isMixed() {
        SmokeTubes calm = two(5, 0);
        above(calm, 0, 1, 525);
        mixed(calm, 0, 1, 175);
        SmokeTubes x = two(6, 0);
        above(x, 0, 1, 0);
        mixed(x, 0, 1, 700);
        above(x, 1, 1, 100);
        above(x, 1, 2, 0);
        mixed(x, 0, 2, 700 - 262);
        mixed(x, 1, 2, 262 + 100);
        SmokeTubes back = two(-6, 0);
        above(back, 1, 1, 0);
        mixed(back, 0, 1, 800);
        mixed(back, 0, 2, 800);
        SmokeTubes strong = two(8, 0);
        strong.way(0, 1, 1, 1, 8);
        for (int way = 0; way < 2; way++) {
            strong.fan(way, 4, 1000000, 0);
            strong.set(0, way, 0, 1);
        }
        mixed(strong, 0, 1, 600);
        mixed(strong, 0, 2, 0);
        mixed(strong, 1, 2, 600 + 200);
    }

    private static SmokeTubes oneWithOut() {
        SmokeTubes x = new SmokeTubes();
        x.piece(10, 1);
        x.fire(0, 0, 1, 800, 0, 1000);
        return x;
    }

    private static void goneAndWashed() {
        SmokeTubes x = oneWithOut();
        above(x, 0, 1, 525);
        mixed(x, 0, 1, 175);
        Check.due("16 gave nothing ahead of 0", x.given(0, 0, 0, 0, 0, 0), 0);
        Check.due("16 gave", x.given(0, 0, 0, 0, 1, 0), 800);
        Check.due("16 gone", x.given(0, 0, 0, 0, 1, 1), 100);
        Check.due("16 gone by 2", x.given(0, 0, 0, 0, 2, 1), 100 + 65 + 21);
        mixed(x, 0, 2, 175 - 21 + 115);
        Check.due("16 nothing washed", x.given(0, 0, 0, 0, 20, 2), 0);
        x.water(0, 1);
        mixed(x, 0, 1, 132);
        Check.due("16 washed", x.given(0, 0, 0, 0, 1, 2), 43);
        x.water(0, 2);
        mixed(x, 0, 1, 175);
        mixed(x, 0, 2, 269 - 67);
        Check.due("16 washed", x.given(0, 0, 0, 0, 2, 2), 67);
        Check.due("16 there", x.given(0, 0, 0, 0, 1, 3), 700);
        for (int minute = 0; minute <= 20; minute++) {
            long gave = x.given(0, 0, 0, 0, minute, 0);
            long rest = x.given(0, 0, 0, 0, minute, 1) + x.given(0, 0, 0, 0, minute, 2);
            Check.due("16 nothing else goes", rest + x.given(0, 0, 0, 0, minute, 3), gave);
            Check.due("16 none burns", x.given(0, 0, 0, NONE, minute, 3), 0);
        }
        x.water(0, 20);
        Check.due("16 washed in 20 alone", x.given(0, 0, 0, 0, 19, 2), 0);
        Check.yes("16 washed in 20", x.given(0, 0, 0, 0, 20, 2) > 0);
    }

    private static void lost() {
        SmokeTubes x = two(0, 0);
        x.piece(10, 0);
        x.way(2, 1, 1, 1, 0);
        x.fan(0, 6, 525, 0);
        x.fan(0, 6, 526, 0);
        x.fan(1, 6, 525, 1);
        x.fan(1, 6, 525, 0);
        x.fan(1, 6, 100, 0);
        Check.due("17 an end of its way", x.lost(0, 0, 0, 0, 0), 2);
        Check.due("17 it bears more", x.lost(0, 0, 0, 0, 1), NONE);
        Check.due("17 its cable", x.lost(0, 0, 0, 0, 2), 2);
        Check.due("17 neither", x.lost(0, 0, 0, 0, 3), NONE);
        Check.due("17 the other end of its way", x.lost(0, 0, 0, 0, 4), 2);
        Check.due("17 none burns", x.lost(0, 0, 0, NONE, 0), NONE);
        x.set(1, 0, 2, 1);
        Check.due("17 its air is lost", x.air(1, 1, 0, 0, 0, 2), 0);
        Check.due("17 its air isn't, if none burns", x.air(1, 1, 0, NONE, 0, 2), 6);
        x.set(1, 0, 1, 1);
        Check.due("17 not lost yet in 1", x.air(1, 1, 0, 0, 0, 1), 6);
        SmokeTubes late = new SmokeTubes();
        late.piece(10, 0);
        late.piece(10, 0);
        late.way(0, 1, 1, 1, 0);
        late.fan(0, 1, 1, 0);
        late.fire(0, 18, 21, 1, 0, 1);
        late.fire(0, 19, 21, 1, 0, 1);
        Check.due("17 lost in 20", late.lost(0, 0, 0, 0, 0), 20);
        Check.due("17 behind 20", late.lost(0, 0, 0, 1, 0), NONE);
    }

    /** Courses that differ in one thing, asked one behind the other and back again. */
    private static void oneBehindTheOther() {
        SmokeTubes x = two(1, 0);
        x.fan(0, 6, 1000000, 0);
        x.fire(1, 0, 1, 400, 0, 1000);
        x.set(1, 0, 0, 1);
        x.set(2, 0, 0, -1);
        for (int round = 0; round < 2; round++) {
            Check.due("15 plans 0, 1", x.smoke(0, 1, 1, 0, 0, 1, false), 175);
            Check.due("15 another first one", x.smoke(1, 1, 1, 0, 0, 1, false), 700);
            Check.due("15 a third one", x.smoke(2, 1, 1, 0, 0, 1, false), 200);
            Check.due("15 another k", x.smoke(2, 1, 0, 0, 0, 1, false), 700);
            Check.due("15 another other one", x.smoke(2, 0, 0, 0, 0, 1, false), 175);
            Check.due("15 another fire", x.smoke(2, 0, 0, 1, 0, 1, true), 50);
            Check.due("15 none", x.smoke(2, 0, 0, NONE, 0, 1, true), 0);
            x.eyes(round);
        }
        x.water(0, 1);
        Check.due("15 washed now", x.smoke(0, 1, 1, 0, 0, 1, false), 132);
        x.undo();
        Check.due("15 not washed again", x.smoke(0, 1, 1, 0, 0, 1, false), 175);
        x.redo();
        Check.due("15 washed again", x.smoke(0, 1, 1, 0, 0, 1, false), 132);
    }

    private static void shut() {
        SmokeTubes x = two(0, 0);
        x.eyes(175);
        Check.due("18 as much as eyes", x.shut(0, 0, 0, 0, 0, 1), false);
        x.eyes(174);
        Check.due("18 more than eyes", x.shut(0, 0, 0, 0, 0, 1), true);
        Check.due("18 not in 0", x.shut(0, 0, 0, 0, 0, 0), false);
        Check.due("18 above doesn't shut", x.shut(0, 0, 0, 0, 1, 1), false);
        Check.due("18 none burns", x.shut(0, 0, 0, NONE, 0, 1), false);
        x.eyes(0);
        Check.due("18 nothing isn't more than nothing", x.shut(0, 0, 0, NONE, 0, 20), false);
    }

    private static void wrong() {
        SmokeTubes x = two(0, 0);
        x.fan(0, 1, 1, 0);
        int[][] courses = {{-1, 0, 0}, {4, 0, 0}, {0, -1, 0}, {0, 4, 0}, {0, 0, -1}, {0, 0, 22}};
        for (int[] c : courses) {
            Check.due("14 course", () -> x.air(c[0], c[1], c[2], 0, 0, 0), Check.NOT_SO);
            Check.due("15 course", () -> x.smoke(c[0], c[1], c[2], 0, 0, 0, true), Check.NOT_SO);
            Check.due("16 course", () -> x.given(c[0], c[1], c[2], 0, 0, 0), Check.NOT_SO);
            Check.due("17 course", () -> x.lost(c[0], c[1], c[2], 0, 0), Check.NOT_SO);
            Check.due("18 course", () -> x.shut(c[0], c[1], c[2], 0, 0, 0), Check.NOT_SO);
            Check.due("14 no such way goes first", () -> x.air(c[0], c[1], c[2], 0, 1, 99), Check.NO_SUCH);
            Check.due("15 no such piece goes first", () -> x.smoke(c[0], c[1], c[2], 0, 2, 99, true), Check.NO_SUCH);
            Check.due("16 no such fire goes first", () -> x.given(c[0], c[1], c[2], 1, 99, 9), Check.NO_SUCH);
            Check.due("17 no such fan goes first", () -> x.lost(c[0], c[1], c[2], 0, 1), Check.NO_SUCH);
            Check.due("18 no such piece goes first", () -> x.shut(c[0], c[1], c[2], 0, -1, 99), Check.NO_SUCH);
        }
        for (int minute : new int[] {-1, 21, Integer.MAX_VALUE}) {
            Check.due("14 minute", () -> x.air(0, 0, 0, 0, 0, minute), Check.NOT_SO);
            Check.due("15 minute", () -> x.smoke(0, 0, 0, 0, 0, minute, true), Check.NOT_SO);
            Check.due("16 minute", () -> x.given(0, 0, 0, 0, minute, 0), Check.NOT_SO);
            Check.due("18 minute", () -> x.shut(0, 0, 0, 0, 0, minute), Check.NOT_SO);
        }
        for (int fire : new int[] {-2, 1}) {
            Check.due("14 fire", () -> x.air(0, 0, 0, fire, 0, 0), Check.NO_SUCH);
            Check.due("15 fire", () -> x.smoke(0, 0, 0, fire, 0, 0, true), Check.NO_SUCH);
            Check.due("17 fire", () -> x.lost(0, 0, 0, fire, 0), Check.NO_SUCH);
            Check.due("18 fire", () -> x.shut(0, 0, 0, fire, 0, 0), Check.NO_SUCH);
        }
        Check.due("16 what", () -> x.given(0, 0, 0, 0, 0, 4), Check.NOT_SO);
        Check.due("16 what", () -> x.given(0, 0, 0, 0, 0, -1), Check.NOT_SO);
        Check.due("17 fan", () -> x.lost(0, 0, 0, 0, -1), Check.NO_SUCH);
    }

    public static void main(String[] args) {
        airOfPlans();
        airHasEnds();
        goesAbove();
        isMixed();
        goneAndWashed();
        lost();
        oneBehindTheOther();
        shut();
        wrong();
        Check.end("SmokeTest");
    }
}
