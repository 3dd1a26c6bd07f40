import java.util.ArrayList;
import java.util.List;
import java.util.function.ToLongFunction;

/**
 * Questions change nothing: each answers the same of a new house, behind each other question, and behind acts that
 * were taken back or done again.
 */
public final class InTurnTest {
    private static final int NONE = SmokeTubes.NONE;
    private static final int MANY = 50;
    private static final List<ToLongFunction<SmokeTubes>> QUESTIONS = new ArrayList<>();

    private static void ask(ToLongFunction<SmokeTubes> question) {
        QUESTIONS.add(question);
    }

    /** Courses that differ in one thing from the first one, with all that is asked of a course. */
    private static void questions() {
        int[][] courses = {{0, 1, 3, 0}, {1, 1, 3, 0}, {0, 0, 3, 0}, {0, 1, 7, 0}, {0, 1, 0, 0}, {0, 1, 3, 1},
            {0, 1, 3, NONE}};
        for (int[] c : courses) {
            ask(x -> x.air(c[0], c[1], c[2], c[3], 1, 4));
            ask(x -> x.smoke(c[0], c[1], c[2], c[3], 0, 5, true));
            ask(x -> x.smoke(c[0], c[1], c[2], c[3], 2, 9, false));
            ask(x -> x.given(c[0], c[1], c[2], c[3], 12, 1));
            ask(x -> x.lost(c[0], c[1], c[2], c[3], 1));
            ask(x -> x.shut(c[0], c[1], c[2], c[3], 0, 6) ? 1 : 0);
            ask(x -> x.out(c[0], c[1], c[2], c[3], 6));
            ask(x -> x.out(c[0], c[1], c[2], c[3], 11));
            ask(x -> x.all(c[0], c[1], c[2], c[3]));
            ask(x -> x.side(c[0], c[1], c[2], c[3], 7, 5));
            ask(x -> x.worth(c[0], c[1], c[2], c[3], 7, 3));
            ask(x -> x.regret(c[0], c[1], c[2], c[3], 8));
            ask(x -> x.reach(c[0], c[1], c[2], c[3], 2, 12));
            ask(x -> x.dose(c[0], c[1], c[2], c[3], 2, 1));
            ask(x -> x.outAt(c[0], c[1], c[2], c[3], 0, 2));
            ask(x -> x.whereAt(c[0], c[1], c[2], c[3], 0, 1, 3));
        }
        for (int plan = 0; plan < 2; plan++) {
            int asked = plan;
            ask(x -> x.fewest(asked, 9, 19));
            ask(x -> x.alike(asked, 4, 0, 1) ? 1 : 0);
            ask(x -> x.turn(asked, 3, 9));
            ask(x -> x.turnTo(asked, 3, 9, 1));
            ask(x -> x.best(2 + asked, 8));
            ask(x -> x.fits(asked));
            ask(x -> x.next(asked));
        }
        ask(SmokeTubes::fit);
        ask(x -> x.count(6));
    }

    /** What a lay brought into a row, as three worths of it. */
    private static long laid(SmokeTubes x, int first, int other, int k, int fire) {
        x.row(0, 1, 8);
        x.lay(first, other, k, fire, 7, 0);
        long worth = x.worth(first, other, k, fire, 7, 0);
        return worth * 1000000 + x.worth(0, 0, 0, NONE, 7, 0) * 1000 + x.worth(0, 0, 0, 0, 5, 0);
    }

    private static void behindOneAnother() {
        long[] due = new long[QUESTIONS.size()];
        for (int q = 0; q < due.length; q++) {
            due[q] = QUESTIONS.get(q).applyAsLong(Houses.some());
        }
        for (int p = 0; p < due.length; p++) {
            SmokeTubes x = Houses.some();
            for (int q = 0; q < due.length; q++) {
                Check.due("question " + p, QUESTIONS.get(p).applyAsLong(x), due[p]);
                Check.due("question " + q + " behind " + p, QUESTIONS.get(q).applyAsLong(x), due[q]);
            }
        }
        for (int p = 0; p < due.length; p++) {
            SmokeTubes x = Houses.some();
            QUESTIONS.get(p).applyAsLong(x);
            Check.due("42 behind " + p, laid(x, 0, 1, 3, 1), laid(Houses.some(), 0, 1, 3, 1));
            QUESTIONS.get(p).applyAsLong(x);
            Check.due("42 behind " + p, laid(x, 1, 1, 0, 0), laid(Houses.some(), 1, 1, 0, 0));
        }
    }

    private static void tell(SmokeTubes x, int act) {
        switch (act) {
            case 0: x.piece(5, 5); break;
            case 1: x.way(2, 1, 1, 9, 3); break;
            case 2: x.water(2, 2); break;
            case 3: x.fire(1, 0, 21, 900, 0, 900); break;
            case 4: x.fan(0, 6, 100000, 0); break;
            case 5: x.set(0, 0, 3, -1); break;
            case 6: x.eyes(3); break;
            case 7: x.group(0, 4, 2); break;
            case 8: x.walk(3); break;
            case 9: x.door(0, 9, 1); break;
            case 10: x.make(1, false); break;
            case 11: x.gauges(7, 3, 0); break;
            case 12: x.drill(3, 4); break;
            default: x.reading(0, 2, true); break;
        }
    }

    /** Each question behind each act, behind that act taken back, and behind it done again. */
    private static void behindActs() {
        for (int act = 0; act < 14; act++) {
            SmokeTubes x = null;
            for (int q = 0; q < QUESTIONS.size(); q++) {
                x = q % MANY == 0 ? Houses.some() : x;
                SmokeTubes told = Houses.some();
                tell(told, act);
                long ahead = QUESTIONS.get(q).applyAsLong(Houses.some());
                long behind = QUESTIONS.get(q).applyAsLong(told);
                Check.due("question " + q + " ahead of act " + act, QUESTIONS.get(q).applyAsLong(x), ahead);
                if (q % MANY == 0) {
                    tell(x, act);
                } else {
                    x.redo();
                }
                Check.due("question " + q + " behind act " + act, QUESTIONS.get(q).applyAsLong(x), behind);
                x.undo();
                Check.due("question " + q + " with act " + act + " taken back", QUESTIONS.get(q).applyAsLong(x), ahead);
            }
        }
    }

    public static void main(String[] args) {
        questions();
        behindOneAnother();
        behindActs();
        Check.end("InTurnTest");
    }
}
