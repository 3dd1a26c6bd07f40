/** Edges of the end of section 4 of the document, and of promises 29 to 31: crews, drills. */
public final class CrewEdgesTest {
    private static final int NONE = SmokeTubes.NONE;

    /** Piece 0 with an out; behind it a chain of pieces. */
    private static SmokeTubes chain(int... minutes) {
        SmokeTubes x = new SmokeTubes();
        x.piece(1, 1);
        for (int i = 0; i < minutes.length; i++) {
            x.piece(1, 0);
            x.way(i, i + 1, minutes[i], 1, 0);
        }
        return x;
    }

    private static int reach(SmokeTubes x, int piece, int air) {
        return x.reach(0, 0, 0, NONE, piece, air);
    }

    /** "begins in MINUTE 0 in a PIECE with an OUT"; "so much AIR (0 to 200)". */
    private static void begins() {
        SmokeTubes x = chain(1);
        Check.due("29 where it begins, without air", reach(x, 0, 0), 0);
        Check.due("29 where it begins, with all air", reach(x, 0, 200), 0);
        Check.due("29 elsewhere without air", reach(x, 1, 0), NONE);
        Check.due("29 elsewhere with all air", reach(x, 1, 200), 1);
        SmokeTubes none = new SmokeTubes();
        none.piece(1, 0);
        none.door(0, 40, 1);
        none.make(0, true);
        Check.due("29 a door is no out", reach(none, 0, 200), NONE);
        SmokeTubes apart = chain();
        apart.piece(1, 0);
        Check.due("29 no way there", reach(apart, 1, 200), NONE);
        SmokeTubes narrow = new SmokeTubes();
        narrow.piece(1, 40);
        narrow.piece(1, 0);
        narrow.way(1, 0, 1, 1, 8);
        Check.due("29 as wide as an out may be; ways go each way round", reach(narrow, 1, 2), 1);
    }

    /** Whichever number the piece with the out has. */
    private static void anyOut() {
        for (int out = 0; out < 8; out++) {
            SmokeTubes x = new SmokeTubes();
            for (int piece = 0; piece < 8; piece++) {
                x.piece(1, piece == out ? 1 : 0);
            }
            for (int piece = 0; piece < 7; piece++) {
                x.way(piece, piece + 1, 1, 1, 0);
            }
            for (int piece = 0; piece < 8; piece++) {
                int far = Math.abs(piece - out);
                Check.due("29 out " + out + ", piece " + piece, reach(x, piece, 2 * far), far);
                if (far > 0) {
                    Check.due("29 too little, out " + out + ", piece " + piece, reach(x, piece, 2 * far - 1), NONE);
                }
            }
        }
    }

    /** "of AIR it needs 1 for each MINUTE": there and back, as long as the ways are, without walk. */
    private static void airForEachMinute() {
        for (int minutes = 1; minutes <= 4; minutes++) {
            SmokeTubes x = chain(minutes);
            x.walk(3);
            Check.due("29 just enough for " + minutes, reach(x, 1, 2 * minutes), minutes);
            Check.due("29 one too little for " + minutes, reach(x, 1, 2 * minutes - 1), NONE);
        }
        SmokeTubes ring = chain(1, 4);
        ring.piece(1, 1);
        ring.way(2, 3, 1, 1, 0);
        Check.due("29 from the nearer out and back to it", reach(ring, 2, 2), 1);
        SmokeTubes through = chain(3, 1);
        through.piece(1, 1);
        through.way(2, 3, 4, 1, 0);
        Check.due("29 there and back by 3 and 1, twice", reach(through, 2, 8), 4);
        Check.due("29 not with one less", reach(through, 2, 7), NONE);
        SmokeTubes on = chain(3, 3);
        on.piece(1, 1);
        on.way(2, 3, 2, 1, 0);
        Check.due("29 the nearer out", reach(on, 2, 4), 2);
        Check.due("29 the middle, in by one out and out by it", reach(on, 1, 6), 3);
    }

    /** "and in a PIECE with an OUT by MINUTE 20". */
    private static void backByTwenty() {
        Check.due("29 10 there and 10 back", reach(chain(4, 4, 2), 3, 200), 10);
        Check.due("29 with just enough air", reach(chain(4, 4, 2), 3, 20), 10);
        Check.due("29 too little air", reach(chain(4, 4, 2), 3, 19), NONE);
        Check.due("29 11 there: not back by 20", reach(chain(4, 4, 3), 3, 200), NONE);
        SmokeTubes on = chain(4, 4, 4, 4);
        on.piece(1, 0);
        on.way(4, 5, 3, 1, 0);
        Check.due("29 8 there and 8 back", reach(on, 2, 200), 8);
        Check.due("29 12 there", reach(on, 3, 200), NONE);
        on.piece(1, 1);
        on.way(5, 6, 1, 1, 0);
        Check.due("29 from the other out", reach(on, 5, 2), 1);
        Check.due("29 8 from the other out", reach(on, 3, 16), 8);
        Check.due("29 too little air", reach(on, 3, 15), NONE);
    }

    /** Piece 0 with an out and, behind a way, piece 1, whose smoke is stirred up by air from piece 2. */
    private static SmokeTubes smoky(int from, int first, int eyes) {
        SmokeTubes x = chain(1);
        x.piece(1, 0);
        x.way(2, 1, 1, 1, 6);
        x.fire(1, from, from + 1, first, 0, first);
        x.eyes(eyes);
        return x;
    }

    /** "2 more for each PIECE and MINUTE at which it comes to be (by staying, too) and which is SHUT then". */
    private static void shutPieces() {
        SmokeTubes x = smoky(0, 7, 6);
        Check.due("18 shut in 1", x.shut(0, 0, 0, 0, 1, 1), true);
        Check.due("18 shut in 20", x.shut(0, 0, 0, 0, 1, 20), true);
        Check.due("29 2 more", x.reach(0, 0, 0, 0, 1, 4), 1);
        Check.due("29 one too little", x.reach(0, 0, 0, 0, 1, 3), NONE);
        x.eyes(7);
        Check.due("29 as much as eyes isn't shut", x.reach(0, 0, 0, 0, 1, 2), 1);
        SmokeTubes behind = smoky(0, 7, 6);
        behind.piece(1, 0);
        behind.way(1, 3, 1, 1, 0);
        Check.due("29 through the shut piece, twice", behind.reach(0, 0, 0, 0, 3, 8), 2);
        Check.due("29 one too little", behind.reach(0, 0, 0, 0, 3, 7), NONE);
        Check.due("29 none burns", reach(behind, 3, 4), 2);
        behind.way(0, 3, 4, 1, 0);
        Check.due("29 by the long way round", behind.reach(0, 0, 0, 0, 3, 7), NONE);
        Check.due("29 in by the short way, first", behind.reach(0, 0, 0, 0, 3, 8), 2);
    }

    /** Staying where it is shut takes 2 more for each minute; on a way nothing is. */
    private static void stayingWhereItIsShut() {
        SmokeTubes x = new SmokeTubes();
        x.piece(1, 1);
        x.piece(1, 0);
        x.way(1, 0, 1, 1, 6);
        x.fire(0, 0, 1, 9, 0, 9);
        x.eyes(1);
        Check.due("18 shut where it begins, from 1 on", x.shut(0, 0, 0, 0, 0, 1), true);
        Check.due("18 and in 2", x.shut(0, 0, 0, 0, 0, 2), true);
        Check.due("29 it begins in 0, when nothing is shut", x.reach(0, 0, 0, 0, 0, 0), 0);
        Check.due("29 back to where it is shut: 2 more", x.reach(0, 0, 0, 0, 1, 4), 1);
        Check.due("29 one too little", x.reach(0, 0, 0, 0, 1, 3), NONE);
        SmokeTubes late = new SmokeTubes();
        late.piece(1, 1);
        late.piece(1, 0);
        late.piece(1, 0);
        late.way(0, 1, 1, 1, 0);
        late.way(1, 2, 1, 1, 6);
        late.fire(1, 0, 1, 16, 0, 16);
        late.eyes(7);
        Check.due("15 12 mixed in 1", late.smoke(0, 0, 0, 0, 1, 1, false), 12);
        Check.due("15 8 in 2", late.smoke(0, 0, 0, 0, 1, 2, false), 8);
        Check.due("15 5 in 3", late.smoke(0, 0, 0, 0, 1, 3, false), 5);
        Check.due("29 at once with 4", late.reach(0, 0, 0, 0, 1, 4), 1);
        Check.due("29 it waits till 3 with 4 as well, but 1 is first", late.reach(0, 0, 0, 0, 1, 5), 1);
        Check.due("29 with 3 neither", late.reach(0, 0, 0, 0, 1, 3), NONE);
        late.eyes(8);
        Check.due("29 not shut in 2: it stays for a minute", late.reach(0, 0, 0, 0, 1, 3), 2);
    }

    /** It may stay for a minute on its way back, if that takes less air than to come where it is shut. */
    private static void stayingOnTheWayBack() {
        SmokeTubes x = chain(1);
        x.piece(1, 0);
        x.way(2, 0, 1, 1, 6);
        x.fire(0, 1, 2, 18, 0, 18);
        x.eyes(13);
        Check.due("18 not shut in 1", x.shut(0, 0, 0, 0, 0, 1), false);
        Check.due("18 shut in 2", x.shut(0, 0, 0, 0, 0, 2), true);
        Check.due("18 not in 3", x.shut(0, 0, 0, 0, 0, 3), false);
        Check.due("29 there, a minute there, and back", x.reach(0, 0, 0, 0, 1, 3), 1);
        Check.due("29 one too little", x.reach(0, 0, 0, 0, 1, 2), NONE);
        Check.due("29 none burns", reach(x, 1, 2), 1);
    }

    /**
     * Piece 1, two minutes off, is shut in 3; the air drives its smoke to the out, which is shut in 4, and then back.
     * To stay for a minute in 3 takes 2 more, as to come back in 4 does.
     */
    private static void stayingWhereItIsShutOnTheWayBack() {
        SmokeTubes x = new SmokeTubes();
        x.piece(1, 1);
        x.piece(1, 0);
        x.way(1, 0, 2, 1, 0);
        for (int fan = 0; fan < 2; fan++) {
            x.fan(0, 6, 1000000, 0);
            x.set(0, fan, 2, 1);
            x.set(0, fan, 4, -1);
        }
        x.fire(1, 2, 3, 160, 0, 160);
        x.eyes(100);
        boolean[][] shut = {{false, false, false, false, true, false}, {false, false, false, true, false, true}};
        for (int piece = 0; piece < 2; piece++) {
            for (int minute = 0; minute < 6; minute++) {
                Check.due("18 piece " + piece + " in " + minute, x.shut(0, 0, 0, 0, piece, minute), shut[piece][minute]);
            }
        }
        Check.due("29 back in 4 with 6", x.reach(0, 0, 0, 0, 1, 6), 2);
        Check.due("29 one too little", x.reach(0, 0, 0, 0, 1, 5), NONE);
    }

    // ---- drills

    /** 2 out by each minute from 2 on with walk 1, from 3 on with walk 2, from 4 on with walk 3. */
    private static SmokeTubes drilled() {
        SmokeTubes x = new SmokeTubes();
        x.piece(60, 0);
        x.piece(60, 2);
        x.way(0, 1, 1, 40, 0);
        x.group(0, 60, 0);
        return x;
    }

    private static void fits(String what, int by, int people, int want) {
        SmokeTubes x = drilled();
        x.drill(by, people);
        Check.due("31 " + what + ": " + people + " by " + by, x.fit(), want);
    }

    /** "A WALK FITS, if for each DRILL OUT BY that MINUTE with it is not less". */
    private static void notLess() {
        Check.due("31 without drills", drilled().fit(), 7);
        fits("nobody by 0", 0, 0, 7);
        fits("one by 0", 0, 1, 0);
        fits("nobody by 1", 1, 0, 7);
        fits("one by 1", 1, 1, 0);
        fits("just as many with walk 1", 2, 2, 1);
        fits("one more", 2, 3, 0);
        fits("just as many with walk 2", 3, 2, 3);
        fits("one more than with walk 2", 3, 3, 1);
        fits("just as many with walk 3", 4, 2, 7);
        fits("one more than with walk 3", 4, 3, 3);
        fits("just as many with walk 3, by 20", 20, 34, 7);
        fits("one more, by 20", 20, 35, 3);
        fits("just as many with walk 2, by 20", 20, 36, 3);
        fits("one more, by 20", 20, 37, 1);
        fits("just as many with walk 1, by 20", 20, 38, 1);
        fits("one more, by 20", 20, 39, 0);
        fits("as many as can be told", 20, 600, 0);
    }

    /** "for each DRILL": of ten the last one counts as the first. */
    private static void eachDrill() {
        SmokeTubes x = drilled();
        for (int drill = 0; drill < 9; drill++) {
            x.drill(20, drill);
        }
        Check.due("31 nine of them", x.fit(), 7);
        Check.due("30 the tenth", x.drill(4, 3), 9);
        Check.due("31 the tenth", x.fit(), 3);
        Check.due("30 an eleventh", x.drill(0, 1), NONE);
        Check.due("31 isn't told", x.fit(), 3);
        x.undo();
        Check.due("30 another tenth", x.drill(0, 1), 9);
        Check.due("31 another tenth", x.fit(), 0);
    }

    /** "when none burned, by PLAN 0", whatever walk is. */
    private static void asDrilled() {
        SmokeTubes x = drilled();
        x.fire(0, 0, 21, 100000, 0, 100000);
        x.eyes(0);
        x.drill(3, 4);
        Check.due("19 with a fire two are out", x.out(0, 0, 0, 0, 20), 2);
        Check.due("31 none burned", x.fit(), 1);
        for (int walk = 1; walk <= 3; walk++) {
            x.walk(walk);
            Check.due("31 whatever walk is", x.fit(), 1);
        }
        Check.due("10 fit changes no walk", x.walk(1), 3);
    }

    public static void main(String[] args) {
        begins();
        anyOut();
        airForEachMinute();
        backByTwenty();
        shutPieces();
        stayingWhereItIsShut();
        stayingOnTheWayBack();
        stayingWhereItIsShutOnTheWayBack();
        notLess();
        eachDrill();
        asDrilled();
        Check.end("CrewEdgesTest");
    }
}
