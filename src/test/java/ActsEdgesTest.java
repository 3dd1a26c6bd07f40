import java.util.ArrayList;
import java.util.List;

/** Edges of the end of section 5 of the document, and of promises 1, 38, 39 and 43: acts, a new object, counts. */
public final class ActsEdgesTest {
    private static final int NONE = SmokeTubes.NONE;

    private static void acts(String what, SmokeTubes x, int back, int again) {
        Check.due("43 " + what + ": may be taken back", x.count(11), back);
        Check.due("43 " + what + ": may be done again", x.count(12), again);
    }

    /** "No PIECES; all as it is at first." */
    private static void aNewObject() {
        SmokeTubes x = new SmokeTubes();
        for (int what = 0; what <= 12; what++) {
            Check.due("1 count " + what, x.count(what), 0);
        }
        Check.due("38 nothing to take back", x.undo(), false);
        Check.due("39 nothing to do again", x.redo(), false);
        acts("refused undo and redo", x, 0, 0);
        for (int row = 0; row < 4; row++) {
            int missing = row;
            Check.due("1 a row is missing", () -> x.write(missing, 0, 0), Check.STATE);
            Check.due("1 a row is missing", () -> x.worth(0, 0, 0, NONE, 0, missing), Check.STATE);
            Check.due("1 a row is missing", () -> x.lay(0, 0, 0, NONE, 0, missing), Check.STATE);
        }
        Check.due("1 eyes", x.eyes(0), 1000);
        Check.due("1 walk", x.walk(1), 1);
        x.piece(1, 0);
        Check.due("1 never washed", x.water(0, 0), 21);
        x.door(0, 1, 1);
        Check.due("1 a door isn't made", x.make(0, true), false);
        SmokeTubes other = new SmokeTubes();
        Check.due("1 another object is new", other.count(0) + other.count(11), 0);
        Check.due("1 another object's eyes", other.eyes(5), 1000);
    }

    /** "all from piece() to gauges(), drill(), reading()": each is one act, and is taken back by itself. */
    private static void eachIsAnAct() {
        SmokeTubes x = new SmokeTubes();
        List<Runnable> acts = new ArrayList<>();
        acts.add(() -> x.piece(1, 1));
        acts.add(() -> x.piece(1, 1));
        acts.add(() -> x.way(0, 1, 1, 1, 0));
        acts.add(() -> x.water(0, 5));
        acts.add(() -> x.fire(0, 0, 1, 1, 1, 1));
        acts.add(() -> x.fan(0, 1, 1, 0));
        acts.add(() -> x.set(0, 0, 0, 1));
        acts.add(() -> x.eyes(5));
        acts.add(() -> x.group(0, 1, 0));
        acts.add(() -> x.walk(2));
        acts.add(() -> x.door(0, 1, 1));
        acts.add(() -> x.make(0, true));
        acts.add(() -> x.gauges(3, 2, 2));
        acts.add(() -> x.drill(1, 1));
        acts.add(() -> x.reading(0, 0, true));
        for (int act = 0; act < acts.size(); act++) {
            acts.get(act).run();
            acts("act " + act, x, act + 1, 0);
        }
        for (int act = acts.size() - 1; act >= 0; act--) {
            Check.due("38 act " + act, x.undo(), true);
            acts("act " + act + " taken back", x, act, acts.size() - act);
        }
        Check.due("38 none is left", x.undo(), false);
        for (int act = 0; act < acts.size(); act++) {
            Check.due("39 act " + act, x.redo(), true);
            acts("act " + act + " done again", x, act + 1, acts.size() - act - 1);
        }
        Check.due("39 none is left", x.redo(), false);
    }

    /** "even if nothing is otherwise then". */
    private static void nothingIsOtherwise() {
        SmokeTubes x = new SmokeTubes();
        x.piece(1, 1);
        x.door(0, 1, 1);
        Check.due("8 as it is", x.eyes(1000), 1000);
        acts("eyes as they are", x, 3, 0);
        Check.due("10 as it is", x.walk(1), 1);
        acts("walk as it is", x, 4, 0);
        Check.due("4 never, as it is", x.water(0, 21), 21);
        acts("water as it is", x, 5, 0);
        Check.due("12 not made, as it is", x.make(0, false), false);
        acts("a door as it is", x, 6, 0);
        x.gauges(0, 1, 1);
        acts("gauges as they are", x, 7, 0);
        Check.due("38 taken back", x.undo(), true);
        acts("gauges taken back", x, 6, 1);
        Check.due("10 as it is", x.walk(1), 1);
        acts("an act, though nothing is otherwise: nothing to do again", x, 7, 0);
    }

    /** What is no act leaves what may be taken back and done again as it is. */
    private static void noActs() {
        SmokeTubes x = Houses.full();
        int back = x.count(11);
        acts("a full house", x, back, 2);
        x.air(0, 0, 0, 0, 0, 0);
        x.smoke(0, 0, 0, 0, 0, 0, true);
        x.given(0, 0, 0, 0, 0, 0);
        x.lost(0, 0, 0, 0, 0);
        x.shut(0, 0, 0, 0, 0, 0);
        x.out(0, 0, 0, 0, 5);
        x.all(0, 0, 0, 0);
        x.side(0, 0, 0, 0, 5, 5);
        x.worth(0, 0, 0, 0, 5, 0);
        x.fewest(0, 5, 31);
        x.alike(0, 5, 0, 1);
        x.regret(0, 0, 0, 0, 5);
        x.turn(0, 0, 5);
        x.turnTo(0, 0, 5, 0);
        x.best(0, 5);
        x.reach(0, 0, 0, 0, 0, 5);
        x.fit();
        x.dose(0, 0, 0, 0, 0, 0);
        x.outAt(0, 0, 0, 0, 0, 0);
        x.whereAt(0, 0, 0, 0, 0, 0, 0);
        x.fits(0);
        x.next(0);
        acts("asking is no act", x, back, 2);
        x.row(0, 0, 30);
        x.write(0, 0, 1);
        x.lay(0, 0, 0, 0, 5, 0);
        acts("what comes into rows is no act", x, back, 2);
        Check.due("2 too many", x.piece(1, 1), NONE);
        acts("too many is no act", x, back, 2);
        Check.due("8 refused", () -> x.eyes(-1), Check.NOT_SO);
        acts("a refused call is no act", x, back, 2);
        Check.due("39 done again", x.redo(), true);
        acts("doing again is no other act", x, back + 1, 1);
        Check.due("38 taken back", x.undo(), true);
        acts("nor is taking back", x, back, 2);
    }

    /** "The latest ACT, of the 100 latest ones": 99, 100 and 101 of them. */
    private static void hundred() {
        for (int made = 99; made <= 101; made++) {
            SmokeTubes x = new SmokeTubes();
            for (int act = 1; act <= made; act++) {
                x.eyes(act);
            }
            int may = Math.min(made, 100);
            acts(made + " acts", x, may, 0);
            for (int act = 0; act < may; act++) {
                Check.due("38 of " + made + ", back " + act, x.undo(), true);
            }
            Check.due("38 of " + made + ", no more", x.undo(), false);
            acts(made + " acts, taken back", x, 0, may);
            for (int act = 0; act < may; act++) {
                Check.due("39 of " + made + ", again " + act, x.redo(), true);
            }
            Check.due("39 of " + made + ", no more", x.redo(), false);
            acts(made + " acts, done again", x, may, 0);
            Check.due("8 all is as it was", x.eyes(0), made);
        }
    }

    /** Of 101 acts the first can't be taken back: what it told stays. */
    private static void theFirstOfMore() {
        SmokeTubes x = new SmokeTubes();
        x.piece(3, 3);
        for (int act = 1; act <= 100; act++) {
            x.eyes(act);
        }
        for (int act = 0; act < 100; act++) {
            x.undo();
        }
        Check.due("38 no more", x.undo(), false);
        Check.due("38 the piece stays", x.count(0), 1);
        acts("a hundred taken back", x, 0, 100);
        Check.due("8 as at first", x.eyes(7), 1000);
        acts("another act", x, 1, 0);
        Check.due("39 nothing to do again", x.redo(), false);
        Check.due("38 taken back", x.undo(), true);
        Check.due("38 no more", x.undo(), false);
        Check.due("38 the piece stays", x.count(0), 1);
        Check.due("2 the next number", x.piece(1, 1), 1);
    }

    /** Two hundred and fifty acts: whatever is taken back, not beyond the hundred latest. */
    private static void manyMore() {
        SmokeTubes x = new SmokeTubes();
        for (int act = 1; act <= 250; act++) {
            x.eyes(act);
        }
        for (int act = 0; act < 40; act++) {
            x.undo();
        }
        acts("40 of 250 taken back", x, 60, 40);
        Check.due("8 as it was behind act 210", x.eyes(999), 210);
        acts("then another act", x, 61, 0);
        for (int act = 0; act < 61; act++) {
            Check.due("38 back", x.undo(), true);
        }
        Check.due("38 no more", x.undo(), false);
        acts("all taken back", x, 0, 61);
        for (int act = 0; act < 61; act++) {
            Check.due("39 again", x.redo(), true);
        }
        Check.due("8 as it was", x.eyes(1), 999);
    }

    /** "used for at most 512 calls": the last of them is answered as the first is. */
    private static void lastCall() {
        SmokeTubes x = new SmokeTubes();
        x.piece(9, 4);
        x.group(0, 9, 0);
        for (int call = 3; call <= 508; call++) {
            Check.due("8 call " + call, x.eyes(call), call == 3 ? 1000 : call - 1);
        }
        Check.due("43 call 509", x.count(11), 100);
        Check.due("19 call 510", x.out(0, 0, 0, NONE, 2), 8);
        Check.due("38 call 511", x.undo(), true);
        Check.due("8 call 512", x.eyes(1), 507);
    }

    /** "what was taken back latest done again, as long as there was no other ACT since". */
    private static void otherActSince() {
        SmokeTubes x = new SmokeTubes();
        x.eyes(1);
        x.eyes(2);
        x.eyes(3);
        x.undo();
        x.undo();
        acts("two taken back", x, 1, 2);
        Check.due("39 that taken back latest", x.redo(), true);
        acts("one done again", x, 2, 1);
        Check.due("8 eyes of act 2", x.eyes(9), 2);
        acts("another act", x, 3, 0);
        Check.due("39 no more", x.redo(), false);
        acts("a refused redo changes nothing", x, 3, 0);
        Check.due("38 back to act 2", x.undo(), true);
        Check.due("39 the other act is done again", x.redo(), true);
        Check.due("8 eyes of the other act", x.eyes(4), 9);
    }

    /** What was taken back and told otherwise isn't there any more, of each sort that has numbers. */
    private static void toldOtherwise() {
        SmokeTubes x = new SmokeTubes();
        x.piece(9, 1);
        x.group(0, 5, 0);
        x.undo();
        x.group(0, 3, 0);
        Check.due("38 three, not five", x.out(0, 0, 0, NONE, 20), 3);
        x.undo();
        Check.due("38 nobody", x.count(6), 0);
        x.redo();
        Check.due("39 three", x.count(6), 3);
        x.undo();
        x.undo();
        x.piece(2, 1);
        Check.due("39 not the group in another piece", x.redo(), false);
        x.group(0, 5, 0);
        Check.due("2 room 2", x.out(0, 0, 0, NONE, 20), 2);
        Check.due("43 five", x.count(6), 5);
    }

    /** Asked at each step: what was answered ahead of an act, taken back or done again, isn't answered behind it. */
    private static void askedAtEachStep() {
        SmokeTubes x = Houses.stirred(40, 9);
        x.group(0, 5, 1);
        Check.due("19 five", x.out(0, 0, 0, 0, 20), 5);
        x.undo();
        Check.due("38 nobody", x.out(0, 0, 0, 0, 20), 0);
        x.group(0, 3, 1);
        Check.due("19 three", x.out(0, 0, 0, 0, 20), 3);
        x.eyes(0);
        Check.due("19 shut", x.out(0, 0, 0, 0, 20), 0);
        x.undo();
        Check.due("38 three again", x.out(0, 0, 0, 0, 20), 3);
        x.redo();
        Check.due("39 shut again", x.out(0, 0, 0, 0, 20), 0);
        x.eyes(9);
        Check.due("19 not shut", x.out(0, 0, 0, 0, 20), 3);
        x.undo();
        x.undo();
        Check.due("38 eyes as at first", x.out(0, 0, 0, 0, 20), 3);
        x.redo();
        x.group(0, 7, 0);
        Check.due("19 seven in 0", x.out(0, 0, 0, 0, 20), 7);
        x.undo();
        Check.due("38 none", x.out(0, 0, 0, 0, 20), 0);
        x.undo();
        x.group(0, 7, 0);
        Check.due("19 seven and three", x.out(0, 0, 0, 0, 20), 10);
        Check.due("15 8 mixed", x.smoke(0, 0, 0, 0, 0, 1, false), 8);
        x.water(0, 0);
        Check.due("15 6 mixed", x.smoke(0, 0, 0, 0, 0, 1, false), 6);
        x.undo();
        Check.due("38 8 mixed", x.smoke(0, 0, 0, 0, 0, 1, false), 8);
        x.water(0, 2);
        Check.due("15 8 mixed in 1", x.smoke(0, 0, 0, 0, 0, 1, false), 8);
        Check.due("15 6 mixed in 2", x.smoke(0, 0, 0, 0, 0, 2, false), 6);
    }

    /** Water, doors and gauges go back to what they were, step by step. */
    private static void whatTheyWere() {
        SmokeTubes x = new SmokeTubes();
        x.piece(1, 0);
        x.piece(1, 0);
        x.water(0, 3);
        x.water(1, 4);
        x.water(0, 0);
        x.undo();
        Check.due("4 as it was", x.water(0, 7), 3);
        x.undo();
        x.undo();
        Check.due("4 the other piece as it was", x.water(1, 8), 21);
        Check.due("4 the first as it was", x.water(0, 9), 3);
        x.door(0, 1, 1);
        x.door(1, 1, 1);
        x.make(1, true);
        x.make(0, true);
        x.make(1, false);
        x.undo();
        Check.due("43 both are made", x.count(8), 2);
        x.undo();
        Check.due("43 door 1 alone", x.count(8), 1);
        Check.due("12 door 1 is made", x.make(1, true), true);
        Check.due("12 door 0 isn't", x.make(0, true), false);
    }

    /** count: 0 to 12, NONE for others. */
    private static void counts() {
        SmokeTubes x = Houses.full();
        int[] due = {8, 12, 4, 8, 60, 10, 345, 6, 0, 10, 40, 98, 2};
        for (int what = 0; what <= 12; what++) {
            Check.due("43 count " + what, x.count(what), due[what]);
        }
        for (int what : new int[] {-1, 13, -2, 14, 256, 1 << 16, Integer.MAX_VALUE, Integer.MIN_VALUE}) {
            Check.due("43 NONE for " + what, x.count(what), NONE);
        }
        for (int door = 0; door < 6; door++) {
            x.make(door, true);
            Check.due("43 those that are made", x.count(8), door + 1);
        }
        x.make(0, true);
        Check.due("43 made twice is made once", x.count(8), 6);
        x.make(5, false);
        Check.due("43 one isn't any more", x.count(8), 5);
    }

    public static void main(String[] args) {
        aNewObject();
        eachIsAnAct();
        nothingIsOtherwise();
        noActs();
        hundred();
        theFirstOfMore();
        manyMore();
        lastCall();
        otherActSince();
        toldOtherwise();
        askedAtEachStep();
        whatTheyWere();
        counts();
        Check.end("ActsEdgesTest");
    }
}
