import java.util.ArrayList;
import java.util.List;

/** Promises 38, 39 and 43: acts taken back and done again, counts. */
public final class ActsTest {
    private static final int NONE = SmokeTubes.NONE;

    /** All that can be asked of an object shortly, to see whether two states are the same. */
    private static List<Long> look(SmokeTubes x) {
        List<Long> all = new ArrayList<>();
        for (int what = 0; what <= 10; what++) {
            all.add((long) x.count(what));
        }
        long fires = all.get(2);
        for (int fire = NONE; fire < fires; fire++) {
            for (int plan = 0; plan < 2; plan++) {
                for (int minute = 0; minute <= 20; minute += 5) {
                    for (int piece = 0; piece < all.get(0); piece++) {
                        all.add(x.smoke(plan, plan, 0, fire, piece, minute, true));
                        all.add(x.smoke(plan, plan, 0, fire, piece, minute, false));
                        all.add(x.shut(plan, plan, 0, fire, piece, minute) ? 1L : 0L);
                        all.add(x.dose(plan, plan, 0, fire, piece, minute));
                    }
                    for (int way = 0; way < all.get(1); way++) {
                        all.add((long) x.air(plan, plan, 0, fire, way, minute));
                    }
                    all.add((long) x.out(plan, plan, 0, fire, minute));
                    all.add(x.alike(plan, minute, fire, NONE) ? 1L : 0L);
                }
            }
        }
        all.add((long) x.fit());
        all.add((long) x.fits(0));
        all.add((long) x.next(0));
        return all;
    }

    private static List<Runnable> acts(SmokeTubes x) {
        List<Runnable> acts = new ArrayList<>();
        acts.add(() -> x.piece(20, 0));
        acts.add(() -> x.piece(30, 5));
        acts.add(() -> x.way(0, 1, 2, 9, 1));
        acts.add(() -> x.fire(0, 0, 9, 900, 50, 5000));
        acts.add(() -> x.group(0, 15, 1));
        acts.add(() -> x.water(0, 3));
        acts.add(() -> x.water(0, 5));
        acts.add(() -> x.fan(0, 4, 2500, 1));
        acts.add(() -> x.set(0, 0, 1, 1));
        acts.add(() -> x.set(1, 0, 2, -1));
        acts.add(() -> x.set(1, 0, 2, 1));
        acts.add(() -> x.eyes(200));
        acts.add(() -> x.eyes(400));
        acts.add(() -> x.walk(2));
        acts.add(() -> x.door(0, 2, 7));
        acts.add(() -> x.make(0, true));
        acts.add(() -> x.gauges(3, 100, 2));
        acts.add(() -> x.gauges(2, 300, 0));
        acts.add(() -> x.walk(3));
        acts.add(() -> x.walk(3));
        acts.add(() -> x.drill(4, 8));
        acts.add(() -> x.reading(1, 3, true));
        acts.add(() -> x.make(0, false));
        acts.add(() -> x.piece(1, 1));
        acts.add(() -> x.water(2, 0));
        acts.add(() -> x.way(2, 1, 1, 1, 7));
        return acts;
    }

    /** A new object with the first so many acts. */
    private static SmokeTubes after(int many) {
        SmokeTubes x = new SmokeTubes();
        List<Runnable> acts = acts(x);
        for (int act = 0; act < many; act++) {
            acts.get(act).run();
        }
        return x;
    }

    /** An object is used for at most 512 calls, and a look takes most of them: so one for each look. */
    private static void backAndForth() {
        int many = acts(new SmokeTubes()).size();
        for (int left = 0; left <= many; left++) {
            List<Long> due = look(after(left));
            SmokeTubes back = after(many);
            for (int act = many; act > left; act--) {
                Check.due("38 taken back", back.undo(), true);
            }
            Check.due("43 may be taken back", back.count(11), left);
            Check.due("43 may be done again", back.count(12), many - left);
            Check.yes("38 as it was ahead of act " + left, look(back).equals(due));
            SmokeTubes forth = after(many);
            for (int act = many; act > 0; act--) {
                Check.due("38 taken back", forth.undo(), true);
            }
            Check.due("38 none is left", forth.undo(), false);
            for (int act = 0; act < left; act++) {
                Check.due("39 done again", forth.redo(), true);
            }
            Check.due("39 more may be", forth.redo(), left < many);
            Check.due("38 and back", left == many || forth.undo(), true);
            Check.yes("39 as it was behind act " + left, look(forth).equals(due));
        }
    }

    private static void otherActs() {
        SmokeTubes x = new SmokeTubes();
        x.piece(1, 1);
        x.piece(2, 2);
        x.undo();
        Check.due("39 no act: it throws", () -> x.piece(0, 0), Check.NOT_SO);
        Check.due("39 no act: a row", x.count(12), 1);
        x.row(0, 1, 5);
        x.write(0, 3, 77);
        x.lay(0, 0, 0, NONE, 2, 0);
        Check.due("39 done again in spite of rows", x.redo(), true);
        Check.due("41 a row isn't taken back", x.write(0, 3, 70), 70);
        x.undo();
        x.eyes(1000);
        Check.due("39 another act: nothing to do again", x.redo(), false);
        Check.due("43 an act, even if nothing is otherwise", x.count(11), 2);
        x.undo();
        x.piece(7, 7);
        Check.due("39 another act took its place", x.redo(), false);
        Check.due("43 two acts", x.count(11), 2);
        for (int i = 2; i < 8; i++) {
            x.piece(3, 3);
        }
        x.undo();
        x.redo();
        x.undo();
        x.piece(3, 3);
        Check.due("2 one too many", x.piece(3, 3), NONE);
        Check.due("43 one too many is no act", x.count(11), 8);
        x.undo();
        x.undo();
        Check.due("2 a number comes again", x.piece(3, 3), 6);
        x.undo();
        x.redo();
        Check.due("43 all is there", x.count(0), 7);
        Check.due("38 rows are no acts", x.count(11), 7);
    }

    private static void tooManyIsNoAct() {
        SmokeTubes x = new SmokeTubes();
        x.piece(1, 1);
        for (int i = 0; i < 4; i++) {
            x.fire(0, 0, 1, 1, 1, 1);
        }
        x.eyes(7);
        x.undo();
        Check.due("5 one too many", x.fire(0, 0, 1, 1, 1, 1), NONE);
        Check.due("39 that was no act", x.redo(), true);
        Check.due("8 eyes are 7 again", x.eyes(1), 7);
    }

    private static void hundred() {
        SmokeTubes x = new SmokeTubes();
        for (int i = 1; i <= 150; i++) {
            x.eyes(i);
            Check.due("43 up to 100", x.count(11), Math.min(i, 100));
        }
        for (int i = 0; i < 30; i++) {
            x.undo();
        }
        Check.due("43 70 more", x.count(11), 70);
        Check.due("43 30 again", x.count(12), 30);
        for (int i = 0; i < 30; i++) {
            Check.due("39 again", x.redo(), true);
        }
        for (int i = 0; i < 100; i++) {
            Check.due("38 back", x.undo(), true);
        }
        Check.due("38 not more than 100", x.undo(), false);
        Check.due("8 as it was behind act 50", x.eyes(9), 50);
        Check.due("43 nothing again", x.count(12), 0);
        Check.due("38 back", x.undo(), true);
        Check.due("8 as it was", x.eyes(9), 50);
    }

    private static void counts() {
        SmokeTubes x = new SmokeTubes();
        for (Runnable act : acts(x)) {
            act.run();
        }
        int[] want = {3, 2, 1, 1, 3, 1, 15, 1, 0, 1, 1, 26, 0};
        for (int what = 0; what < want.length; what++) {
            Check.due("43 count " + what, x.count(what), want[what]);
        }
        x.make(0, true);
        Check.due("43 made", x.count(8), 1);
        for (int what : new int[] {-1, 13, Integer.MAX_VALUE, Integer.MIN_VALUE}) {
            Check.due("43 others", x.count(what), NONE);
        }
    }

    public static void main(String[] args) {
        backAndForth();
        otherActs();
        tooManyIsNoAct();
        hundred();
        counts();
        Check.end("ActsTest");
    }
}
