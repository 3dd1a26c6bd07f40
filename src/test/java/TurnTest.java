/** Promises 24 to 28: what gauges tell, regrets and turns. */
public final class TurnTest {
    private static final int NONE = SmokeTubes.NONE;

    /**
     * Pieces 0 and 2 with people who start in 3 (10 and 20 of them), each joined to piece 1, which has an out.
     * The draught of 6 on the way of piece 0 stirs up what a fire there gives, unless fan 0 stands against it
     * (plan 1); fan 1, on by plan 1, stirs it up in piece 2. With eyes 2 three that are stirred up shut a piece,
     * and that is so in minute 3 if it was stirred in 0, 1 and 2. So plan 0 is bad for fire 0, plan 1 for fire 1.
     */
    private static SmokeTubes torn() {
        SmokeTubes x = new SmokeTubes();
        x.piece(60, 0);
        x.piece(60, 40);
        x.piece(60, 0);
        x.way(0, 1, 1, 40, 6);
        x.way(2, 1, 1, 40, 0);
        x.fan(0, 6, 1000000, 0);
        x.fan(1, 6, 1000000, 0);
        x.set(1, 0, 0, -1);
        x.set(1, 1, 0, 1);
        x.fire(0, 0, 21, 1, 0, 1);
        x.fire(2, 0, 21, 1, 0, 1);
        x.group(0, 10, 3);
        x.group(2, 20, 3);
        x.eyes(2);
        return x;
    }

    private static void regrets() {
        SmokeTubes x = torn();
        int[][] outs = {{20, 30, 20, 20}, {30, 10, 30, 30}};
        for (int fire = 0; fire < 2; fire++) {
            for (int plan = 0; plan < 4; plan++) {
                Check.due("19 plan alone", x.out(plan, plan, 0, fire, 10), outs[fire][plan]);
                Check.due("25 regret alone", x.regret(plan, plan, 7, fire, 10), 30 - outs[fire][plan]);
            }
        }
        Check.due("25 turned in time", x.regret(0, 1, 1, 0, 10), 0);
        Check.due("25 still in time", x.regret(0, 1, 2, 0, 10), 0);
        Check.due("25 too late", x.regret(0, 1, 3, 0, 10), 10);
        Check.due("25 k 0: the other one alone", x.regret(0, 1, 0, 1, 10), 20);
        Check.due("25 k 21: the first one alone", x.regret(0, 1, 21, 0, 10), 10);
        Check.due("25 none burns", x.regret(1, 0, 4, NONE, 10), 0);
        Check.due("25 nobody can be out by 3", x.regret(0, 0, 0, 0, 3), 0);
    }

    /** By plan 0 those can be out who start in 1, by the others those who start in 4; by a course, both. */
    private static void regretBelowNothing() {
        SmokeTubes x = new SmokeTubes();
        x.piece(60, 0);
        x.piece(60, 40);
        x.way(0, 1, 1, 40, 0);
        x.fan(0, 6, 1000000, 0);
        x.set(0, 0, 3, 1);
        x.set(1, 0, 0, 1);
        x.set(1, 0, 3, 0);
        x.set(2, 0, 0, 1);
        x.set(3, 0, 0, 1);
        x.fire(0, 0, 1, 3, 0, 3);
        x.eyes(2);
        x.group(0, 10, 1);
        x.group(0, 10, 4);
        Check.due("19 plan 0: those who start in 1", x.out(0, 0, 0, 0, 10), 10);
        Check.due("19 plan 1: those who start in 4", x.out(1, 1, 0, 0, 10), 10);
        Check.due("19 plan 0 up to 3, then plan 1: both", x.out(0, 1, 3, 0, 10), 20);
        Check.due("25 a course may be better than each plan", x.regret(0, 1, 3, 0, 10), -10);
        Check.due("26 a turn may be better", x.turn(0, 3, 10), -10);
        Check.due("27 it goes to plan 1", x.turnTo(0, 3, 10, 0), 1);
        Check.due("26 in 4 it is too late", x.turn(0, 4, 10), 0);
        Check.due("26 from the others on it doesn't matter", x.turn(2, 3, 10), 0);
        Check.due("28 best", x.best(3, 10), 0);
    }

    private static void alike() {
        SmokeTubes x = torn();
        Check.due("24 no gauges: alike", x.alike(0, 20, 0, 1), true);
        x.gauges(1, 1, 0);
        Check.due("24 alike in 0", x.alike(0, 0, 0, 1), true);
        Check.due("24 not in 1", x.alike(0, 1, 0, 1), false);
        Check.due("24 not behind it either", x.alike(0, 20, 0, 1), false);
        Check.due("24 a fire and none", x.alike(0, 1, 0, NONE), false);
        Check.due("24 the other fire and none", x.alike(0, 1, NONE, 1), true);
        Check.due("24 one and the same", x.alike(0, 20, 1, 1), true);
        Check.due("24 none and none", x.alike(0, 20, NONE, NONE), true);
        x.gauges(1, 1, 2);
        Check.due("24 known 2 later", x.alike(0, 2, 0, 1), true);
        Check.due("24 known 2 later", x.alike(0, 3, 0, 1), false);
        x.gauges(1, 3, 0);
        Check.due("24 by its mark", x.alike(0, 2, 0, 1), true);
        Check.due("24 by its mark", x.alike(0, 3, 0, 1), false);
        x.gauges(4, 2, 0);
        Check.due("24 by another plan", x.alike(1, 2, 0, 1), false);
        Check.due("24 no such fire", () -> x.alike(4, 21, 2, 0), Check.NO_SUCH);
        Check.due("24 no such fire", () -> x.alike(4, 21, 0, -2), Check.NO_SUCH);
        Check.due("24 plan 4", () -> x.alike(4, 0, 0, 1), Check.NOT_SO);
        Check.due("24 plan -1", () -> x.alike(-1, 0, 0, 1), Check.NOT_SO);
        Check.due("24 minute 21", () -> x.alike(0, 21, 0, 1), Check.NOT_SO);
        Check.due("24 minute -1", () -> x.alike(0, -1, 0, 1), Check.NOT_SO);
    }

    private static void turn(SmokeTubes x, int plan, int k, int regret, int first, int other) {
        String what = " plan " + plan + " k " + k;
        Check.due("26" + what, x.turn(plan, k, 10), regret);
        Check.due("27 fire 0" + what, x.turnTo(plan, k, 10, 0), first);
        Check.due("27 fire 1" + what, x.turnTo(plan, k, 10, 1), other);
    }

    private static void turns() {
        SmokeTubes x = torn();
        turn(x, 0, 0, 10, 0, 0);
        turn(x, 0, 1, 10, 0, 0);
        turn(x, 1, 0, 10, 0, 0);
        x.gauges(1, 1, 0);
        turn(x, 0, 0, 10, 0, 0);
        turn(x, 0, 1, 0, 1, 0);
        turn(x, 0, 2, 0, 1, 0);
        turn(x, 0, 3, 10, 0, 0);
        turn(x, 0, 21, 10, 0, 0);
        turn(x, 1, 1, 0, 1, 0);
        turn(x, 1, 3, 20, 0, 0);
        x.gauges(1, 1, 1);
        turn(x, 0, 1, 10, 0, 0);
        turn(x, 0, 2, 0, 1, 0);
        Check.due("26 by 3 nobody can be out", x.turn(1, 3, 3), 0);
        Check.due("28 the lesser of like ones", x.best(2, 10), 0);
        Check.due("28 plan 1 is worse in 3", x.best(3, 10), 0);
        x.set(2, 0, 0, -1);
        Check.due("28 plan 2 stirs nothing", x.best(3, 10), 2);
        Check.due("28 k 21", x.best(21, 10), 2);
        Check.due("28 k 0: like ones", x.best(0, 10), 0);
    }

    private static void wrong() {
        SmokeTubes none = new SmokeTubes();
        Check.due("26 no fires goes first", () -> none.turn(4, 22, 21), Check.STATE);
        Check.due("28 no fires goes first", () -> none.best(22, 21), Check.STATE);
        Check.due("27 no fires", () -> none.turnTo(4, 22, 21, 0), Check.NO_SUCH);
        SmokeTubes x = torn();
        int[][] wrong = {{-1, 0, 0}, {4, 0, 0}, {0, -1, 0}, {0, 22, 0}, {0, 0, -1}, {0, 0, 21}};
        for (int[] w : wrong) {
            Check.due("25 first", () -> x.regret(w[0], 0, w[1], 0, w[2]), Check.NOT_SO);
            Check.due("25 other", () -> x.regret(0, w[0], w[1], 0, w[2]), Check.NOT_SO);
            Check.due("25 no such fire goes first", () -> x.regret(w[0], 0, w[1], 2, w[2]), Check.NO_SUCH);
            Check.due("26 it can't be so", () -> x.turn(w[0], w[1], w[2]), Check.NOT_SO);
            Check.due("27 it can't be so", () -> x.turnTo(w[0], w[1], w[2], 0), Check.NOT_SO);
            Check.due("27 no such fire goes first", () -> x.turnTo(w[0], w[1], w[2], 2), Check.NO_SUCH);
            if (w[0] == 0) {
                Check.due("28 it can't be so", () -> x.best(w[1], w[2]), Check.NOT_SO);
            }
        }
        Check.due("27 none is no fire to turn for", () -> x.turnTo(0, 0, 0, NONE), Check.NO_SUCH);
    }

    public static void main(String[] args) {
        regrets();
        regretBelowNothing();
        alike();
        turns();
        wrong();
        Check.end("TurnTest");
    }
}
