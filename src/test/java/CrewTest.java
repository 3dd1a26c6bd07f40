/** Promises 29 to 31: crews, drills. */
public final class CrewTest {
    private static final int NONE = SmokeTubes.NONE;

    private static int reach(SmokeTubes x, int piece, int air) {
        return x.reach(0, 0, 0, NONE, piece, air);
    }

    private static SmokeTubes chain(int... minutes) {
        SmokeTubes x = new SmokeTubes();
        x.piece(1, 1);
        for (int i = 0; i < minutes.length; i++) {
            x.piece(1, 0);
            x.way(i + 1, i, minutes[i], 1, 0);
        }
        return x;
    }

    private static void reaches() {
        SmokeTubes x = chain(2, 3);
        Check.due("29 where it begins", reach(x, 0, 0), 0);
        Check.due("29 there and back", reach(x, 1, 4), 2);
        Check.due("29 too little", reach(x, 1, 3), NONE);
        Check.due("29 farther", reach(x, 2, 10), 5);
        Check.due("29 too little", reach(x, 2, 9), NONE);
        x.walk(3);
        Check.due("29 without walk", reach(x, 2, 10), 5);
        x.door(2, 40, 1);
        x.make(0, true);
        Check.due("29 a door is no out", reach(x, 2, 9), NONE);
        Check.due("29 back by 20", reach(chain(4, 4, 2), 3, 200), 10);
        Check.due("29 not back by 20", reach(chain(4, 4, 3), 3, 200), NONE);
        SmokeTubes through = chain(4, 4, 3);
        through.piece(1, 1);
        through.way(3, 4, 1, 1, 0);
        Check.due("29 from another out", reach(through, 3, 2), 1);
        SmokeTubes none = new SmokeTubes();
        none.piece(1, 0);
        Check.due("29 no out, no crew", reach(none, 0, 200), NONE);
    }

    /** The fire of 4 in each minute shuts piece 1 from minute 1 on, with eyes 0; piece 0 stays clear up to 3. */
    private static void shutPieces() {
        SmokeTubes x = chain(1);
        x.fire(1, 0, 21, 4, 0, 4);
        x.eyes(0);
        Check.due("29 2 more where it is shut", x.reach(0, 0, 0, 0, 1, 4), 1);
        Check.due("29 too little", x.reach(0, 0, 0, 0, 1, 3), NONE);
        Check.due("29 none burns", x.reach(0, 0, 0, NONE, 1, 2), 1);
        SmokeTubes late = chain(1);
        late.fire(0, 0, 1, 40, 0, 40);
        late.eyes(7);
        Check.due("29 shut at 1 where it comes back", late.shut(0, 0, 0, 0, 0, 2), true);
        Check.due("29 as many minutes, 2 more at the end", late.reach(0, 0, 0, 0, 1, 4), 1);
        Check.due("29 too little", late.reach(0, 0, 0, 0, 1, 3), NONE);
    }

    /** A draught of 6 towards piece 2 stirs up what the fire gives at once, and drives it off from then on. */
    private static void waitingHelps() {
        SmokeTubes ahead = chain(1);
        ahead.piece(1, 0);
        ahead.way(1, 2, 1, 1, 6);
        ahead.fire(1, 0, 1, 100, 0, 100);
        ahead.eyes(50);
        Check.due("29 shut in 1", ahead.shut(0, 0, 0, 0, 1, 1), true);
        Check.due("29 not in 2", ahead.shut(0, 0, 0, 0, 1, 2), false);
        Check.due("29 at once", ahead.reach(0, 0, 0, 0, 1, 4), 1);
        Check.due("29 a minute later it needs less", ahead.reach(0, 0, 0, 0, 1, 3), 2);
        Check.due("29 too little", ahead.reach(0, 0, 0, 0, 1, 2), NONE);
        SmokeTubes behind = chain(1);
        behind.piece(1, 0);
        behind.way(0, 2, 1, 1, 6);
        behind.fire(0, 1, 2, 100, 0, 100);
        behind.eyes(50);
        Check.due("29 shut where it comes back in 2", behind.shut(0, 0, 0, 0, 0, 2), true);
        Check.due("29 not in 3", behind.shut(0, 0, 0, 0, 0, 3), false);
        Check.due("29 it stays for a minute", behind.reach(0, 0, 0, 0, 1, 3), 1);
        Check.due("29 too little", behind.reach(0, 0, 0, 0, 1, 2), NONE);
        behind.fire(1, 1, 2, 400, 0, 400);
        behind.water(0, 0);
        Check.due("29 shut where it would stay", behind.shut(0, 0, 0, 1, 1, 2), true);
        Check.due("29 it comes back at once", behind.reach(0, 0, 0, 1, 1, 2), 1);
    }

    private static void drills() {
        SmokeTubes x = new SmokeTubes();
        Check.due("31 without drills all fit", x.fit(), 7);
        x.piece(10, 0);
        x.piece(5, 3);
        x.way(0, 1, 2, 4, 0);
        x.group(0, 10, 0);
        x.fire(0, 0, 21, 100000, 0, 100000);
        x.fan(0, 6, 1, 0);
        Check.due("30 by -1", () -> x.drill(-1, 0), Check.NOT_SO);
        Check.due("30 by 21", () -> x.drill(21, 0), Check.NOT_SO);
        Check.due("30 people -1", () -> x.drill(0, -1), Check.NOT_SO);
        Check.due("30 people 601", () -> x.drill(0, 601), Check.NOT_SO);
        Check.due("30 the first", x.drill(0, 0), 0);
        Check.due("31 nobody by 0", x.fit(), 7);
        Check.due("30 the second", x.drill(7, 3), 1);
        Check.due("31 walk 3: 3 by 7", x.fit(), 7);
        x.drill(7, 4);
        Check.due("31 walk 3 is too slow for 4", x.fit(), 3);
        x.walk(3);
        Check.due("31 whatever walk is", x.fit(), 3);
        x.drill(5, 9);
        Check.due("31 walk 2 has 3 by 5", x.fit(), 1);
        x.drill(20, 600);
        Check.due("31 none fits", x.fit(), 0);
        x.undo();
        Check.due("31 fits again", x.fit(), 1);
        x.door(0, 10, 1);
        x.make(0, true);
        Check.due("31 by a door that is made", x.fit(), 7);
        for (int i = 4; i < 10; i++) {
            Check.due("30 told", x.drill(20, 10), i);
        }
        Check.due("30 the eleventh", x.drill(20, 10), NONE);
        Check.due("30 wrong even then", () -> x.drill(21, 10), Check.NOT_SO);
        Check.due("30 there are 10", x.count(9), 10);
    }

    private static void wrong() {
        SmokeTubes x = chain(1);
        x.fire(0, 0, 1, 1, 1, 1);
        int[][] wrong = {{-1, 0, 0, 1}, {4, 0, 0, 1}, {0, -1, 0, 1}, {0, 4, 0, 1}, {0, 0, -1, 1}, {0, 0, 22, 1},
            {0, 0, 0, -1}, {0, 0, 0, 201}};
        for (int[] w : wrong) {
            Check.due("29 it can't be so", () -> x.reach(w[0], w[1], w[2], 0, 0, w[3]), Check.NOT_SO);
            Check.due("29 no such piece goes first", () -> x.reach(w[0], w[1], w[2], 0, 2, w[3]), Check.NO_SUCH);
            Check.due("29 no such fire goes first", () -> x.reach(w[0], w[1], w[2], 1, 0, w[3]), Check.NO_SUCH);
        }
    }

    public static void main(String[] args) {
        reaches();
        shutPieces();
        waitingHelps();
        drills();
        wrong();
        Check.end("CrewTest");
    }
}
