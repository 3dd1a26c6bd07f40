/** Promises 19 to 23: who can be out, the side that proves it, and the fewest doors. */
public final class OutTest {
    private static final int NONE = SmokeTubes.NONE;

    private static int out(SmokeTubes x, int by) {
        return x.out(0, 0, 0, NONE, by);
    }

    private static void outs(String what, SmokeTubes x, int... want) {
        for (int by = 0; by < want.length; by++) {
            Check.due("19 " + what + " by " + by, out(x, by), want[by]);
        }
    }

    /** A piece with room for 10 and 10 people, a way 2 minutes long and 4 wide, a piece with room 5 and an out 3. */
    private static SmokeTubes hall() {
        SmokeTubes x = new SmokeTubes();
        x.piece(10, 0);
        x.piece(5, 3);
        x.way(0, 1, 2, 4, 0);
        x.group(0, 10, 0);
        return x;
    }

    private static void plainOuts() {
        SmokeTubes one = new SmokeTubes();
        one.piece(7, 3);
        one.group(0, 9, 2);
        outs("room 7 and an out 3", one, 0, 0, 0, 3, 6, 7, 7);
        one.group(0, 5, 4);
        outs("more who start in 4", one, 0, 0, 0, 3, 6, 9, 12, 12, 12);
        SmokeTubes x = hall();
        outs("hall", x, 0, 0, 0, 3, 6, 9, 10, 10);
        Check.due("20 all", x.all(0, 0, 0, NONE), 6);
        x.walk(2);
        outs("walk 2", x, 0, 0, 0, 0, 0, 3, 6, 9, 10);
        x.walk(3);
        outs("walk 3", x, 0, 0, 0, 0, 0, 0, 0, 3, 6);
        Check.due("20 all with walk 3", x.all(0, 0, 0, NONE), 10);
        SmokeTubes wrongWayRound = new SmokeTubes();
        wrongWayRound.piece(5, 3);
        wrongWayRound.piece(10, 0);
        wrongWayRound.way(0, 1, 2, 4, 0);
        wrongWayRound.group(1, 10, 0);
        outs("ways go each way round", wrongWayRound, 0, 0, 0, 3, 6, 9, 10);
        Check.due("20 nobody: by 0", new SmokeTubes().all(0, 0, 0, NONE), 0);
        SmokeTubes never = hall();
        never.group(1, 1, 20);
        Check.due("20 who starts in 20 is never out", never.all(0, 0, 0, NONE), NONE);
        Check.due("19 the others are", out(never, 20), 10);
    }

    /** Room 3 of the piece between lets 3 on in a minute; those who aren't let on wait behind it. */
    private static void roomOnTheWay() {
        SmokeTubes x = new SmokeTubes();
        x.piece(60, 0);
        x.piece(3, 0);
        x.piece(60, 40);
        x.way(0, 1, 1, 40, 0);
        x.way(1, 2, 1, 40, 0);
        x.group(0, 20, 0);
        outs("room on the way", x, 0, 0, 0, 3, 6, 9, 12, 15, 18, 20);
        x.door(1, 2, 1);
        outs("a door that isn't made", x, 0, 0, 0, 3, 6);
        x.make(0, true);
        outs("a door that is made", x, 0, 0, 2, 5, 8, 11);
        x.make(0, false);
        outs("made no more", x, 0, 0, 0, 3);
    }

    private static SmokeTubes burning() {
        SmokeTubes x = new SmokeTubes();
        x.piece(20, 0);
        x.piece(20, 4);
        x.way(0, 1, 3, 10, 0);
        x.fire(0, 0, 21, 60000, 0, 100000);
        x.fire(1, 0, 21, 60000, 0, 100000);
        x.group(0, 8, 0);
        return x;
    }

    private static void shutPieces() {
        SmokeTubes x = burning();
        Check.due("19 the fire shuts the other end", x.out(0, 0, 0, 0, 20), 0);
        Check.due("20 nobody ever", x.all(0, 0, 0, 0), NONE);
        x.eyes(1000000);
        Check.due("19 eyes see through", x.out(0, 0, 0, 0, 5), 8);
        Check.due("20 by 5", x.all(0, 0, 0, 0), 5);
        x.eyes(0);
        x.door(0, 8, 1);
        x.make(0, true);
        Check.due("19 nothing is shut in 0", x.out(0, 0, 0, 0, 1), 8);
        x.group(0, 5, 1);
        Check.due("19 who starts where it is shut is lost", x.out(0, 0, 0, 0, 20), 8);
        Check.due("20 never all", x.all(0, 0, 0, 0), NONE);
        Check.due("20 all if none burns", x.all(0, 0, 0, NONE), 2);
    }

    private static void sides() {
        SmokeTubes x = hall();
        int[] byThree = {257, 257, 771, 771};
        for (int minute = 0; minute < 4; minute++) {
            Check.due("21 by 3, at " + minute, x.side(0, 0, 0, NONE, 3, minute), byThree[minute]);
        }
        SmokeTubes all = hall();
        for (int minute = 0; minute <= 20; minute++) {
            Check.due("21 all out: nobody is on the side", all.side(0, 0, 0, NONE, 20, minute), 0);
        }
        SmokeTubes room = new SmokeTubes();
        room.piece(7, 9);
        room.group(0, 9, 1);
        Check.due("21 before they start", room.side(0, 0, 0, NONE, 4, 0), 0);
        Check.due("21 the room bounds them: the begin alone", room.side(0, 0, 0, NONE, 4, 1), 1);
        Check.due("21 not later", room.side(0, 0, 0, NONE, 4, 2), 0);
        Check.due("21 above by", () -> x.side(0, 0, 0, NONE, 3, 4), Check.NOT_SO);
        Check.due("21 minute -1", () -> x.side(0, 0, 0, NONE, 3, -1), Check.NOT_SO);
        Check.due("21 by 21", () -> x.side(0, 0, 0, NONE, 21, 3), Check.NOT_SO);
        Check.due("21 no such fire", () -> x.side(9, 0, 0, 0, 21, 30), Check.NO_SUCH);
    }

    private static void write(SmokeTubes x, int row, long... numbers) {
        x.row(row, 3, numbers.length);
        for (int place = 0; place < numbers.length; place++) {
            x.write(row, place, numbers[place]);
        }
    }

    private static int worth(SmokeTubes x, int by) {
        return x.worth(0, 0, 0, NONE, by, 0);
    }

    private static void worths() {
        SmokeTubes x = hall();
        write(x, 0, 257, 257, 771, 771);
        Check.due("22 the side", worth(x, 3), 3);
        write(x, 0, 0, 0, 0, 0);
        Check.due("22 nothing in it: the groups", worth(x, 3), 10);
        write(x, 0, 1, 0, 0, 0);
        Check.due("22 a begin alone: its room", worth(x, 3), 10);
        write(x, 0, 257, 1, 0, 0);
        Check.due("22 being and the next begin", worth(x, 3), 10 + 4);
        write(x, 0, 257, 0, 0, 0);
        Check.due("22 open", worth(x, 3), NONE);
        Check.due("22 nothing is open at by", worth(x, 0), 0);
        write(x, 0, 257, 257, 257, 257);
        Check.due("22 two minutes in which the way arrives by 3", worth(x, 3), 8);
        write(x, 0, 514, 514);
        Check.due("22 the other way round doesn't arrive by 1", worth(x, 1), 10 + 3);
        write(x, 0, 512, 514, 514);
        Check.due("22 a being without its begin", worth(x, 2), 10 + 4 + 3 + 3);
        write(x, 0, 0xffff, 0xffff, 0xffff, 0xffff);
        Check.due("22 pieces that there aren't", worth(x, 3), 9);
        write(x, 0, 0x7f0000L | 257, 1L << 40 | 257, -65536L | 771, 771);
        Check.due("22 the lowest sixteen bits", worth(x, 3), 3);
        x.row(0, 0, 4);
        for (int place = 0; place < 4; place++) {
            x.write(0, place, -1);
        }
        Check.due("22 a number of 8 bits below 0", worth(x, 3), 9);
        x.door(1, 5, 1);
        Check.due("22 a door that isn't made", worth(x, 3), 9);
        x.make(0, true);
        Check.due("22 a door that is made", worth(x, 3), 24);
        x.make(0, false);
        x.walk(2);
        write(x, 0, 257, 257, 257, 257);
        Check.due("22 walk 2: nobody arrives by 3", worth(x, 3), 0);
        x.group(0, 7, 3);
        write(x, 0, 257, 257, 257, 0);
        Check.due("22 open again", worth(x, 3), NONE);
        write(x, 0, 0, 0, 0, 0);
        Check.due("22 groups that start by 3", worth(x, 3), 17);
        Check.due("22 groups that start by 2", worth(x, 2), 10);
        SmokeTubes fire = burning();
        write(fire, 0, 0, 1);
        Check.due("22 no room where it is shut", fire.worth(0, 0, 0, 0, 1, 0), 8);
        Check.due("22 room if none burns", fire.worth(0, 0, 0, NONE, 1, 0), 28);
    }

    private static void wrong() {
        SmokeTubes x = burning();
        x.row(0, 0, 3);
        int[][] courses = {{-1, 0, 0, 0}, {4, 0, 0, 0}, {0, -1, 0, 0}, {0, 4, 0, 0}, {0, 0, -1, 0}, {0, 0, 22, 0},
            {0, 0, 0, -1}, {0, 0, 0, 21}};
        for (int[] c : courses) {
            Check.due("19 course", () -> x.out(c[0], c[1], c[2], 0, c[3]), Check.NOT_SO);
            Check.due("21 course", () -> x.side(c[0], c[1], c[2], 0, c[3], 0), Check.NOT_SO);
            Check.due("22 course, ahead of missing", () -> x.worth(c[0], c[1], c[2], 0, c[3], 1), Check.NOT_SO);
            Check.due("22 no such row goes first", () -> x.worth(c[0], c[1], c[2], 0, c[3], 4), Check.NO_SUCH);
            Check.due("19 no such fire goes first", () -> x.out(c[0], c[1], c[2], 2, c[3]), Check.NO_SUCH);
            if (c[3] == 0) {
                Check.due("20 course", () -> x.all(c[0], c[1], c[2], 0), Check.NOT_SO);
                Check.due("20 no such fire goes first", () -> x.all(c[0], c[1], c[2], -2), Check.NO_SUCH);
            }
        }
        Check.due("22 no such fire", () -> x.worth(0, 0, 0, 2, 0, 0), Check.NO_SUCH);
        Check.due("22 row -1", () -> x.worth(0, 0, 0, 0, 0, -1), Check.NO_SUCH);
        Check.due("22 missing", () -> x.worth(0, 0, 0, 0, 0, 1), Check.STATE);
        Check.due("22 it ends ahead of by", () -> x.worth(0, 0, 0, 0, 3, 0), Check.PLACE);
        Check.due("22 it ends with by", x.worth(0, 0, 0, 0, 2, 0), 8);
    }

    private static void fewestDoors() {
        SmokeTubes x = burning();
        Check.due("23 no door helps, as there is none", x.fewest(0, 20, 1), NONE);
        Check.due("23 none is needed", x.fewest(0, 20, 16), 0);
        Check.due("23 for no fires", x.fewest(0, 0, 0), 0);
        x.door(0, 3, 5);
        x.door(0, 8, 9);
        x.door(0, 5, 2);
        x.door(0, 8, 8);
        x.door(1, 8, 1);
        Check.due("23 one of width 8, the cheaper one", x.fewest(0, 20, 1), 8);
        Check.due("23 for all of three", x.fewest(0, 20, 19), 8);
        Check.due("23 slow enough for door 0", x.fewest(0, 3, 16), 1 << 2);
        Check.due("23 by 0 nobody can", x.fewest(0, 0, 16), NONE);
        x.make(3, true);
        Check.due("23 none more with what is made", x.fewest(0, 20, 1), 0);
        x.group(0, 7, 0);
        Check.due("23 one more", x.fewest(0, 20, 1), 2);
        x.group(0, 1, 0);
        Check.due("23 room, and width 8 more", x.fewest(0, 20, 1), 2);
        x.make(1, true);
        x.make(1, false);
        x.group(0, 4, 0);
        Check.due("23 as few as can be, though two are cheaper", x.fewest(0, 20, 16), 0);
        SmokeTubes like = burning();
        like.door(0, 4, 3);
        like.door(0, 4, 3);
        like.door(0, 4, 3);
        Check.due("23 two of three like ones: the least set", like.fewest(0, 20, 1), 3);
        like.door(0, 4, 2);
        Check.due("23 the least cost goes first", like.fewest(0, 20, 1), 9);
        like.group(0, 1, 20);
        Check.due("23 who starts in 20 can't", like.fewest(0, 20, 16), NONE);
        int[][] wrong = {{-1, 0, 0}, {4, 0, 0}, {0, -1, 0}, {0, 21, 0}, {0, 0, 4}, {0, 0, 8}, {0, 0, 32}, {0, 0, -1}};
        for (int[] w : wrong) {
            Check.due("23 it can't be so", () -> x.fewest(w[0], w[1], w[2]), Check.NOT_SO);
        }
    }

    public static void main(String[] args) {
        plainOuts();
        roomOnTheWay();
        shutPieces();
        sides();
        worths();
        wrong();
        fewestDoors();
        Check.end("OutTest");
    }
}
