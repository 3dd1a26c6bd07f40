/** Edges of section 4 of the document, and of promises 23 to 28: doors, gauges, regrets, turns. */
public final class TurnEdgesTest {
    private static final int NONE = SmokeTubes.NONE;

    private static SmokeTubes one(int out, int people, int start) {
        SmokeTubes x = new SmokeTubes();
        x.piece(60, out);
        x.group(0, people, start);
        return x;
    }

    // ---- fewest doors

    /** "NONE if there is none"; none is needed: the set without any. */
    private static void noneOrNothing() {
        SmokeTubes x = one(0, 6, 0);
        Check.due("23 no doors at all", x.fewest(0, 20, 16), NONE);
        Check.due("23 for no fires: nothing is asked", x.fewest(0, 20, 0), 0);
        Check.due("23 for no fires by 0", x.fewest(0, 0, 0), 0);
        x.door(0, 6, 1);
        Check.due("23 by 0 nobody can be out", x.fewest(0, 0, 16), NONE);
        Check.due("23 by 1 with the door", x.fewest(0, 1, 16), 1);
        x.door(0, 5, 1);
        x.make(0, true);
        Check.due("23 it is made: none more", x.fewest(0, 1, 16), 0);
        x.make(1, true);
        Check.due("23 all are made", x.fewest(0, 1, 16), 0);
        x.make(0, false);
        Check.due("23 one isn't made any more", x.fewest(0, 1, 16), 1);
        x.make(1, false);
        x.group(0, 6, 0);
        Check.due("23 12 by 1: not even with both", x.fewest(0, 1, 16), NONE);
        Check.due("23 12 by 2", x.fewest(0, 2, 16), 1);
        SmokeTubes made = one(0, 12, 0);
        made.door(0, 6, 1);
        made.make(0, true);
        Check.due("23 all are made, and too few", made.fewest(0, 1, 16), NONE);
        Check.due("23 nobody is there: none is needed", new SmokeTubes().fewest(3, 0, 16), 0);
    }

    /** "all people": those too who start behind that minute, or who aren't let on. */
    private static void allPeople() {
        SmokeTubes x = one(0, 6, 0);
        x.door(0, 40, 1);
        x.group(0, 1, 4);
        Check.due("23 one starts in 4: not by 4", x.fewest(0, 4, 16), NONE);
        Check.due("23 by 5", x.fewest(0, 5, 16), 1);
        SmokeTubes crowd = one(0, 60, 0);
        crowd.group(0, 1, 0);
        crowd.door(0, 40, 1);
        Check.due("23 one isn't let on", crowd.fewest(0, 20, 16), NONE);
    }

    /** "as few as can be; of these the least cost; of these the least set". */
    private static void fewThenCheapThenLeast() {
        SmokeTubes x = one(0, 10, 0);
        x.door(0, 5, 1);
        x.door(0, 5, 1);
        x.door(0, 10, 1000);
        Check.due("23 one for 1000 goes ahead of two for 2", x.fewest(0, 1, 16), 4);
        x.door(0, 10, 999);
        Check.due("23 one for 999", x.fewest(0, 1, 16), 8);
        x.door(0, 10, 999);
        Check.due("23 of like ones the least set", x.fewest(0, 1, 16), 8);
        x.door(0, 40, 998);
        Check.due("23 the last door there may be", x.fewest(0, 1, 16), 32);
        SmokeTubes two = one(0, 10, 0);
        two.door(0, 5, 3);
        two.door(0, 5, 2);
        two.door(0, 5, 2);
        two.door(0, 5, 3);
        Check.due("23 two for 4", two.fewest(0, 1, 16), 6);
        two.make(1, true);
        Check.due("23 one for 2", two.fewest(0, 1, 16), 4);
        SmokeTubes sums = one(0, 10, 0);
        sums.door(0, 5, 4);
        sums.door(0, 5, 1);
        sums.door(0, 5, 4);
        sums.door(0, 5, 1);
        Check.due("23 1 and 1", sums.fewest(0, 1, 16), 10);
        SmokeTubes like = one(0, 10, 0);
        like.door(0, 5, 2);
        like.door(0, 5, 3);
        like.door(0, 5, 2);
        Check.due("23 2 and 2", like.fewest(0, 1, 16), 5);
    }

    private static void allSix() {
        SmokeTubes x = one(0, 60, 0);
        for (int door = 0; door < 6; door++) {
            x.door(0, 10, 1000);
        }
        Check.due("23 all six", x.fewest(0, 1, 16), 63);
        Check.due("23 three of them by 2", x.fewest(0, 2, 16), 7);
        x.make(0, true);
        Check.due("23 five more", x.fewest(0, 1, 16), 62);
    }

    /** "for each of these": the fire in piece 0 shuts the door there, that in piece 1 the one there. */
    private static SmokeTubes twoSides() {
        SmokeTubes x = new SmokeTubes();
        for (int piece = 0; piece < 3; piece++) {
            x.piece(60, 0);
        }
        x.way(2, 0, 1, 40, 0);
        x.way(2, 1, 1, 40, 0);
        x.fire(0, 0, 21, 100000, 0, 100000);
        x.fire(1, 0, 21, 100000, 0, 100000);
        x.group(2, 5, 0);
        x.door(0, 40, 2);
        x.door(1, 40, 1);
        return x;
    }

    private static void forEachFire() {
        SmokeTubes x = twoSides();
        Check.due("23 none burns: the cheaper one", x.fewest(0, 20, 16), 2);
        Check.due("23 fire 0", x.fewest(0, 20, 1), 2);
        Check.due("23 fire 1", x.fewest(0, 20, 2), 1);
        Check.due("23 both", x.fewest(0, 20, 3), 3);
        Check.due("23 fire 1 and none", x.fewest(0, 20, 18), 1);
        Check.due("23 all three", x.fewest(0, 20, 19), 3);
        Check.due("23 just in time", x.fewest(0, 2, 19), 3);
        Check.due("23 too early", x.fewest(0, 1, 19), NONE);
        x.make(0, true);
        Check.due("23 what is made isn't in the set", x.fewest(0, 20, 3), 2);
        Check.due("23 fire 1 needs none more", x.fewest(0, 20, 2), 0);
    }

    // ---- gauges and what is alike

    /** A fire of 10 in each minute from the start on, in a piece by itself, and one from minute 5 on. */
    private static SmokeTubes gauged(int mark, int lag) {
        SmokeTubes x = new SmokeTubes();
        x.piece(60, 0);
        x.piece(60, 0);
        x.fire(0, 0, 21, 10, 0, 10);
        x.fire(0, 5, 21, 10, 0, 10);
        x.gauges(1, mark, lag);
        return x;
    }

    /** Whether fire 0 and none are alike ahead of a minute and no more in it. */
    private static void apartFrom(String what, SmokeTubes x, int a, int b, int minute) {
        for (int asked = 0; asked <= 20; asked++) {
            Check.due("24 " + what + ", in " + asked, x.alike(0, asked, a, b), asked < minute);
            Check.due("24 " + what + ", the other way round, in " + asked, x.alike(0, asked, b, a), asked < minute);
        }
    }

    /** "as much ABOVE and MIXED together as its MARK", known "a LAG (0 to 5 ..) later". */
    private static void marksAndLags() {
        for (int lag = 0; lag <= 5; lag++) {
            apartFrom("lag " + lag, gauged(1, lag), 0, NONE, 1 + lag);
        }
        apartFrom("just as much as the mark", gauged(10, 0), 0, NONE, 1);
        apartFrom("less than the mark", gauged(11, 0), 0, NONE, 2);
        apartFrom("two minutes' smoke, above and mixed together", gauged(20, 0), 0, NONE, 2);
        apartFrom("190 in 19", gauged(190, 1), 0, NONE, 20);
        apartFrom("200 in 20", gauged(200, 0), 0, NONE, 20);
        apartFrom("200 in 20 is known in 21", gauged(200, 1), 0, NONE, 21);
        apartFrom("never 201", gauged(201, 0), 0, NONE, 21);
        apartFrom("never a million", gauged(1000000, 0), 0, NONE, 21);
    }

    /** "in each MINUTE up to LAG ahead of that one": what was otherwise once is otherwise from then on. */
    private static void otherwiseOnce() {
        SmokeTubes x = new SmokeTubes();
        x.piece(60, 1);
        x.fire(0, 0, 1, 16, 0, 16);
        x.fire(0, 0, 1, 7, 0, 7);
        x.gauges(1, 14, 0);
        Check.due("15 14 in 1", x.given(0, 0, 0, 0, 1, 3), 14);
        Check.yes("15 less behind it", x.given(0, 0, 0, 0, 2, 3) < 14);
        apartFrom("it was told in 1", x, 0, 1, 1);
        apartFrom("and never of the other one", x, 1, NONE, 21);
    }

    private static void whereGaugesAre() {
        SmokeTubes x = gauged(1, 0);
        apartFrom("fire 1 begins in 5", x, 0, 1, 1);
        apartFrom("fire 1 and none", x, 1, NONE, 6);
        apartFrom("one and the same", x, 1, 1, 21);
        apartFrom("none and none", x, NONE, NONE, 21);
        x.gauges(2, 1, 0);
        apartFrom("a gauge where nothing is", x, 0, NONE, 21);
        x.gauges(0, 1, 0);
        apartFrom("no gauges", x, 0, NONE, 21);
        x.gauges(3, 1, 0);
        apartFrom("one of two tells", x, 0, NONE, 1);
    }

    /** "none at first", "1 at first for all", "1 at first". */
    private static void gaugesAtFirst() {
        SmokeTubes x = gauged(7, 0);
        x.undo();
        apartFrom("none at first", x, 0, NONE, 21);
        Check.due("36 mark 1 at first", x.fits(0), 19);
        x.reading(0, 1, true);
        Check.due("36 mark 1 at first: 10 in 1", x.fits(0), 1);
        SmokeTubes least = new SmokeTubes();
        least.piece(1, 0);
        least.fire(0, 0, 1, 1, 0, 1);
        least.reading(0, 1, true);
        Check.due("36 1 is as much as mark at first", least.fits(0), 1);
    }

    // ---- regrets and turns

    /** Plan 1 stirs up what a fire in piece 0 gives in minute 0; those who start there in 1 then find it shut. */
    private static SmokeTubes stirs() {
        SmokeTubes x = new SmokeTubes();
        x.piece(60, 7);
        x.piece(60, 0);
        x.way(1, 0, 1, 40, 0);
        x.fan(0, 6, 1000000, 0);
        x.set(1, 0, 0, 1);
        x.fire(0, 0, 1, 800, 0, 800);
        x.group(0, 7, 1);
        x.eyes(200);
        return x;
    }

    private static void regrets() {
        SmokeTubes x = stirs();
        Check.due("25 plan 0", x.regret(0, 0, 0, 0, 20), 0);
        Check.due("25 plan 1", x.regret(1, 1, 0, 0, 20), 7);
        Check.due("25 by 1 nobody can be out", x.regret(1, 1, 0, 0, 1), 0);
        Check.due("25 by 2", x.regret(1, 1, 0, 0, 2), 7);
        Check.due("25 by 0", x.regret(1, 1, 0, 0, 0), 0);
        Check.due("25 k 0: the other one alone", x.regret(1, 0, 0, 0, 20), 0);
        Check.due("25 k 1: too late", x.regret(1, 0, 1, 0, 20), 7);
        Check.due("25 k 1 from plan 0 on: no harm any more", x.regret(0, 1, 1, 0, 2), 0);
        Check.due("25 k 21: the first one alone", x.regret(1, 0, 21, 0, 20), 7);
        Check.due("25 none burns", x.regret(1, 1, 0, NONE, 20), 0);
    }

    /** "the greatest OUT BY t of the four PLANS alone": whichever plan it is of. */
    private static void greatestOfFour() {
        for (int good = 0; good < 4; good++) {
            SmokeTubes x = stirs();
            for (int plan = 0; plan < 4; plan++) {
                x.set(plan, 0, 0, plan == good ? 0 : 1);
            }
            for (int plan = 0; plan < 4; plan++) {
                Check.due("25 plan " + plan + ", good is " + good, x.regret(plan, plan, 0, 0, 20), plan == good ? 0 : 7);
            }
            Check.due("27 good is " + good, x.turnTo(1, 0, 20, 0), good);
            Check.due("28 good is " + good, x.best(21, 20), good);
        }
    }

    private static void turnEdges() {
        SmokeTubes x = stirs();
        Check.due("26 k 0: the best plan from the start on", x.turn(1, 0, 20), 0);
        Check.due("27 k 0: that is plan 0", x.turnTo(1, 0, 20, 0), 0);
        Check.due("26 k 1: too late", x.turn(1, 1, 20), 7);
        Check.due("27 k 1: of like ones the lesser", x.turnTo(1, 1, 20, 0), 0);
        Check.due("26 k 20", x.turn(1, 20, 20), 7);
        Check.due("26 k 21: never", x.turn(1, 21, 20), 7);
        Check.due("27 k 21: of like ones the lesser", x.turnTo(1, 21, 20, 0), 0);
        Check.due("26 by 0", x.turn(1, 21, 0), 0);
        Check.due("28 k 0: all are like", x.best(0, 20), 0);
        Check.due("28 k 21", x.best(21, 20), 0);
        x.set(0, 0, 0, 1);
        Check.due("28 plan 0 is bad now, and plan 1: the lesser of the others", x.best(21, 20), 2);
        Check.due("27 plan 2 is the lesser good one", x.turnTo(0, 0, 20, 0), 2);
        x.set(2, 0, 0, 1);
        Check.due("28 plan 3 alone is good", x.best(21, 20), 3);
        Check.due("27 plan 3 alone is good", x.turnTo(0, 0, 20, 0), 3);
        x.set(3, 0, 0, 1);
        Check.due("28 all are bad: none has a regret", x.best(21, 20), 0);
        Check.due("26 all are bad: none has a regret", x.turn(0, 21, 20), 0);
    }

    /** "IllegalStateException: there are no FIRES" goes first; with one fire it is gone. */
    private static void noFires() {
        SmokeTubes x = new SmokeTubes();
        x.piece(1, 1);
        Check.due("26 no fires", () -> x.turn(0, 0, 0), Check.STATE);
        Check.due("26 no fires, ahead of a plan", () -> x.turn(-1, 0, 0), Check.STATE);
        Check.due("26 no fires, ahead of k", () -> x.turn(0, 22, 0), Check.STATE);
        Check.due("26 no fires, ahead of by", () -> x.turn(0, 0, 21), Check.STATE);
        Check.due("28 no fires", () -> x.best(0, 0), Check.STATE);
        Check.due("28 no fires, ahead of k", () -> x.best(-1, 0), Check.STATE);
        Check.due("28 no fires, ahead of by", () -> x.best(0, -1), Check.STATE);
        Check.due("27 no such fire", () -> x.turnTo(0, 0, 0, 0), Check.NO_SUCH);
        x.fire(0, 0, 1, 1, 1, 1);
        Check.due("26 a fire", x.turn(0, 0, 0), 0);
        Check.due("28 a fire", x.best(0, 0), 0);
        Check.due("27 a fire", x.turnTo(0, 0, 0, 0), 0);
        x.undo();
        Check.due("26 it is taken back", () -> x.turn(0, 0, 0), Check.STATE);
        Check.due("28 it is taken back", () -> x.best(0, 0), Check.STATE);
        Check.due("27 it is taken back", () -> x.turnTo(0, 0, 0, 0), Check.NO_SUCH);
    }

    /**
     * Four fires, as many as there may be, in four pieces by themselves; each gives 1 in minute 1, which gauges can tell in
     * 2, and 800 in minute 2. If that is stirred up then (in piece 0 by plan 0, in piece 2 by plan 1 and so on), those who
     * start there in 3 find it shut.
     */
    private static SmokeTubes fourFires() {
        SmokeTubes x = new SmokeTubes();
        for (int i = 0; i < 4; i++) {
            x.piece(60, 40);
            x.piece(60, 0);
            x.way(2 * i + 1, 2 * i, 1, 1, 0);
            x.fan(i, 6, 1000000, 0);
            x.set(i, i, 0, 1);
            x.fire(2 * i, 1, 3, 1, 799, 800);
            x.group(2 * i, 10 * (i + 1), 3);
        }
        x.eyes(200);
        return x;
    }

    private static void turnsTo(String what, SmokeTubes x, int k, int... plans) {
        for (int fire = 0; fire < 4; fire++) {
            Check.due("27 " + what + ", fire " + fire, x.turnTo(3, k, 20, fire), plans[fire]);
        }
    }

    private static void classes() {
        SmokeTubes x = fourFires();
        for (int fire = 0; fire < 4; fire++) {
            for (int plan = 0; plan < 4; plan++) {
                int regret = fire == plan ? 10 * (fire + 1) : 0;
                Check.due("25 plan " + plan + ", fire " + fire, x.regret(plan, plan, 0, fire, 20), regret);
            }
        }
        turnsTo("all alike: plan 0 is the least bad one", x, 2, 0, 0, 0, 0);
        Check.due("26 all alike", x.turn(3, 2, 20), 10);
        x.gauges(255, 1, 0);
        turnsTo("each by itself", x, 2, 1, 0, 0, 0);
        Check.due("26 each by itself", x.turn(3, 2, 20), 0);
        turnsTo("not known in 1 yet", x, 1, 0, 0, 0, 0);
        Check.due("26 not known in 1 yet", x.turn(3, 1, 20), 10);
        turnsTo("too late in 3: like ones", x, 3, 0, 0, 0, 0);
        Check.due("26 too late in 3: plan 3 fails for fire 3", x.turn(3, 3, 20), 40);
        Check.due("28 in 3: plan 0 fails least", x.best(3, 20), 0);
        x.gauges(1, 1, 0);
        turnsTo("fire 0 by itself", x, 2, 1, 0, 0, 0);
        x.gauges(64, 1, 0);
        turnsTo("fire 3 by itself", x, 2, 3, 3, 3, 0);
        Check.due("26 fire 3 by itself", x.turn(3, 2, 20), 0);
        x.gauges(2 | 8, 1, 0);
        turnsTo("gauges where nothing is", x, 2, 0, 0, 0, 0);
        x.gauges(255, 2, 0);
        turnsTo("the mark isn't there yet", x, 2, 0, 0, 0, 0);
        x.gauges(255, 1, 1);
        turnsTo("known a minute too late", x, 2, 0, 0, 0, 0);
        Check.due("26 known a minute too late", x.turn(3, 2, 20), 10);
        x.set(0, 1, 0, 1);
        Check.due("28 plan 0 fails for fire 1 too: plan 0 in 2 still", x.best(2, 20), 0);
        Check.due("28 in 3: plan 0 fails with 20, as plan 1 does", x.best(3, 20), 0);
        x.set(0, 2, 0, 1);
        Check.due("28 in 3: plan 0 fails with 30, plan 1 with 20", x.best(3, 20), 1);
    }

    /**
     * Fires in pieces 0 and 2, each with an out; 10 people start in 0 and 20 in 2, in minute 3. From 2 on plan 0 stirs
     * up piece 0, plan 1 piece 2, the others both. In 1 plan 0 holds smoke back from piece 1, where a gauge is: so by
     * plan 1 the fires are apart in 2, by plan 0 they aren't.
     */
    private static SmokeTubes apartByPlanOne() {
        SmokeTubes x = new SmokeTubes();
        for (int i = 0; i < 2; i++) {
            x.piece(60, 40);
            x.piece(60, 0);
            x.way(2 * i + 1, 2 * i, 1, 1, 0);
            x.fan(i, 6, 1000000, 0);
            x.fire(2 * i, 1, 3, 100, 700, 800);
            x.group(2 * i, 10 * (i + 1), 3);
        }
        x.fan(0, 4, 1000000, 0);
        x.set(0, 2, 1, 1);
        x.set(0, 2, 2, 0);
        x.set(0, 0, 2, 1);
        x.set(1, 1, 2, 1);
        for (int plan = 2; plan < 4; plan++) {
            x.set(plan, 0, 2, 1);
            x.set(plan, 1, 2, 1);
        }
        x.eyes(300);
        x.gauges(2, 1, 0);
        return x;
    }

    /** Asked of a new object each, and one behind the other: what gauges tell is by the plan that is asked. */
    private static void byThePlanAlone() {
        Check.due("26 plan 0: alike", apartByPlanOne().turn(0, 2, 20), 10);
        Check.due("26 plan 1: apart", apartByPlanOne().turn(1, 2, 20), 0);
        Check.due("28 plan 1", apartByPlanOne().best(2, 20), 1);
        Check.due("27 plan 1, fire 0", apartByPlanOne().turnTo(1, 2, 20, 0), 1);
        Check.due("27 plan 1, fire 1", apartByPlanOne().turnTo(1, 2, 20, 1), 0);
        SmokeTubes x = apartByPlanOne();
        for (int round = 0; round < 2; round++) {
            Check.due("24 plan 0", x.alike(0, 2, 0, 1), true);
            Check.due("26 plan 1", x.turn(1, 2, 20), 0);
            Check.due("28 plan 1", x.best(2, 20), 1);
            Check.due("24 plan 1", x.alike(1, 2, 0, 1), false);
            Check.due("26 plan 0", x.turn(0, 2, 20), 10);
            Check.due("27 plan 0, fire 0", x.turnTo(0, 2, 20, 0), 0);
            Check.due("27 plan 0, fire 1", x.turnTo(0, 2, 20, 1), 0);
        }
    }

    public static void main(String[] args) {
        noneOrNothing();
        allPeople();
        fewThenCheapThenLeast();
        allSix();
        forEachFire();
        marksAndLags();
        otherwiseOnce();
        whereGaugesAre();
        gaugesAtFirst();
        regrets();
        greatestOfFour();
        turnEdges();
        noFires();
        classes();
        byThePlanAlone();
        Check.end("TurnEdgesTest");
    }
}
