import java.util.ArrayList;
import java.util.List;
import java.util.function.LongSupplier;

/** What an object answers to some 200 calls: two that answer alike are taken to hold the same. */
final class Look {
    private static final int NONE = SmokeTubes.NONE;
    private final SmokeTubes x;
    private final List<Long> all = new ArrayList<>();

    private Look(SmokeTubes x) {
        this.x = x;
    }

    /** The object is not as it was behind this: what is told can only be seen by telling something else. */
    static List<Long> at(SmokeTubes x) {
        Look look = new Look(x);
        look.counts();
        look.fires();
        look.pieces();
        look.waysAndFans();
        look.watched();
        look.rows();
        look.doneAgain();
        look.dials();
        return look.all;
    }

    static void same(String what, SmokeTubes got, SmokeTubes due) {
        List<Long> is = at(got);
        List<Long> want = at(due);
        Check.yes(what + ": nothing is otherwise\n  got " + is + "\n  due " + want, is.equals(want));
    }

    private void add(long answer) {
        all.add(answer);
    }

    /** Throws count too, by the name of what is thrown. */
    private void addCall(LongSupplier call) {
        try {
            all.add(call.getAsLong());
        } catch (RuntimeException e) {
            all.add((long) e.getClass().getName().hashCode());
        }
    }

    private void counts() {
        for (int what = 0; what <= 12; what++) {
            add(x.count(what));
        }
    }

    private void fires() {
        for (int fire = NONE; fire < x.count(2); fire++) {
            for (int what = 0; what < 4; what++) {
                add(x.given(0, 1, 5, fire, 20, what));
                add(x.given(0, 1, 5, fire, 7, what));
            }
            add(x.out(0, 1, 5, fire, 20));
            add(x.out(0, 1, 5, fire, 9));
            add(x.all(0, 0, 0, fire));
        }
    }

    private void pieces() {
        int fire = x.count(2) - 1;
        for (int piece = 0; piece < x.count(0); piece++) {
            add(x.smoke(0, 1, 5, fire, piece, 6, false));
            add(x.shut(0, 1, 5, fire, piece, 20) ? 1 : 0);
            add(x.outAt(0, 1, 5, fire, piece, 0));
            add(x.reach(0, 1, 5, fire, piece, 30));
        }
    }

    private void waysAndFans() {
        int fire = x.count(2) - 1;
        for (int way = 0; way < x.count(1); way++) {
            add(x.air(0, 1, 5, fire, way, 2));
            add(x.air(0, 1, 5, fire, way, 20));
        }
        for (int fan = 0; fan < x.count(3); fan++) {
            add(x.lost(0, 1, 5, fire, fan));
        }
    }

    private void watched() {
        add(x.fit());
        add(x.fits(0));
        add(x.next(0));
        add(x.fewest(0, 20, 16));
        addCall(() -> x.turn(0, 5, 20));
        addCall(() -> x.best(5, 20));
        addCall(() -> x.alike(0, 5, 0, NONE) ? 1 : 0);
    }

    private void rows() {
        for (int row = 0; row < 4; row++) {
            int asked = row;
            addCall(() -> x.worth(0, 0, 0, NONE, 0, asked));
            addCall(() -> x.worth(0, 0, 0, NONE, 2, asked));
            addCall(() -> x.worth(0, 0, 0, NONE, 20, asked));
        }
    }

    private void doneAgain() {
        int again = x.count(12);
        for (int act = 0; act <= again; act++) {
            add(x.redo() ? 1 : 0);
        }
        counts();
    }

    private void dials() {
        add(x.eyes(1));
        add(x.walk(1));
        for (int piece = 0; piece < x.count(0); piece++) {
            add(x.water(piece, 1));
        }
        for (int door = 0; door < x.count(7); door++) {
            add(x.make(door, true) ? 1 : 0);
        }
    }
}
