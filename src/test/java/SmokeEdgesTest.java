/** Edges of sections 1 and 2 of the document, and of promises 14 to 18: air and smoke. */
public final class SmokeEdgesTest {
    private static final int NONE = SmokeTubes.NONE;

    private static long above(SmokeTubes x, int piece, int minute) {
        return x.smoke(0, 0, 0, 0, piece, minute, true);
    }

    private static long mixed(SmokeTubes x, int piece, int minute) {
        return x.smoke(0, 0, 0, 0, piece, minute, false);
    }

    private static long total(SmokeTubes x, int minute, int what) {
        return x.given(0, 0, 0, 0, minute, what);
    }

    private static int air(SmokeTubes x, int minute) {
        return x.air(0, 0, 0, NONE, 0, minute);
    }

    /** Two pieces and a way between them, without a fire. */
    private static SmokeTubes joined(int draught) {
        SmokeTubes x = new SmokeTubes();
        x.piece(10, 0);
        x.piece(10, 0);
        x.way(0, 1, 1, 5, draught);
        return x;
    }

    /** One piece, closed or with an out, with a fire that gives so much in minute 0. */
    private static SmokeTubes alone(int out, int first) {
        SmokeTubes x = new SmokeTubes();
        x.piece(10, out);
        x.fire(0, 0, 1, first, 0, 100000);
        return x;
    }

    // ---- fires: "from its begin on and ahead of its end it GIVES the lesser one of TOP and of FIRST and GROWS times .."

    private static SmokeTubes burning(int from, int to, int first, int grows, int top) {
        SmokeTubes x = new SmokeTubes();
        x.piece(1, 0);
        x.fire(0, from, to, first, grows, top);
        return x;
    }

    /** What it gives in a minute, from what it gave up to that and up to the next one. */
    private static void gives(String what, SmokeTubes x, int minute, int want) {
        Check.due("5 " + what + ", in " + minute, total(x, minute + 1, 0) - total(x, minute, 0), want);
    }

    private static void fireBeginsAndEnds() {
        SmokeTubes x = burning(4, 7, 10, 0, 10);
        gives("ahead of its begin", x, 3, 0);
        gives("at its begin", x, 4, 10);
        gives("ahead of its end", x, 6, 10);
        gives("at its end", x, 7, 0);
        SmokeTubes shortest = burning(19, 20, 9, 0, 9);
        gives("one minute alone", shortest, 18, 0);
        gives("one minute alone", shortest, 19, 9);
        Check.due("5 from 0 up to 21: 20 minutes count", total(burning(0, 21, 1, 0, 1), 20, 0), 20);
        Check.due("5 from 0 up to 20: as many", total(burning(0, 20, 1, 0, 1), 20, 0), 20);
        Check.due("5 from 0 up to 19: one less", total(burning(0, 19, 1, 0, 1), 20, 0), 19);
        Check.due("5 what it gives in 20 comes to nothing", total(burning(20, 21, 100000, 0, 100000), 20, 0), 0);
        Check.due("5 and lies nowhere in 20", above(burning(20, 21, 100000, 0, 100000), 0, 20), 0);
    }

    private static void fireTop() {
        SmokeTubes grows = burning(2, 21, 10, 5, 20);
        gives("first", grows, 2, 10);
        gives("grown once", grows, 3, 15);
        gives("just top", grows, 4, 20);
        gives("not above top", grows, 5, 20);
        gives("first above top", burning(0, 21, 21, 0, 20), 0, 20);
        gives("first as top", burning(0, 21, 20, 1, 20), 0, 20);
        gives("nothing at first", burning(0, 21, 0, 7, 20), 0, 0);
        gives("then what it grows", burning(0, 21, 0, 7, 20), 1, 7);
        gives("top 0", burning(0, 21, 100000, 100000, 0), 19, 0);
        SmokeTubes most = burning(0, 21, 100000, 100000, 100000);
        gives("the most", most, 0, 100000);
        gives("the most, all along", most, 19, 100000);
        Check.due("16 the most in all", total(most, 20, 0), 2000000);
        Check.due("16 and all is there", total(most, 20, 3), 2000000);
        SmokeTubes slow = burning(0, 21, 100000, 0, 100000);
        Check.due("5 grows 0", total(slow, 20, 0), 2000000);
    }

    /** "each of which burns alone". "NONE tells in place of a FIRE that none burns." */
    private static void burnsAlone() {
        SmokeTubes x = burning(0, 1, 80, 0, 80);
        x.fire(0, 0, 1, 40, 0, 40);
        Check.due("5 fire 0 alone", x.given(0, 0, 0, 0, 20, 0), 80);
        Check.due("5 fire 1 alone", x.given(0, 0, 0, 1, 20, 0), 40);
        Check.due("5 none burns", x.given(0, 0, 0, NONE, 20, 0), 0);
        Check.due("15 nothing above", x.smoke(0, 0, 0, NONE, 0, 20, true), 0);
        Check.due("15 nothing mixed", x.smoke(0, 0, 0, NONE, 0, 20, false), 0);
    }

    // ---- plans: "in a MINUTE that counts which is from the latest MINUTE that isn't behind it .."

    private static void plansFromAMinuteOn() {
        SmokeTubes x = joined(0);
        x.fan(0, 3, 1000000, 0);
        Check.due("7 off without any", air(x, 20), 0);
        x.set(0, 0, 20, 1);
        Check.due("7 not ahead of its minute", air(x, 19), 0);
        Check.due("7 in 20", air(x, 20), 3);
        x.set(0, 0, 0, -1);
        Check.due("7 from 0 on", air(x, 0), -3);
        Check.due("7 up to the next one", air(x, 19), -3);
        Check.due("7 the later minute counts, though told earlier", air(x, 20), 3);
        x.set(0, 0, 20, 0);
        Check.due("7 of like ones that told last", air(x, 20), 0);
        x.set(0, 0, 20, -1);
        Check.due("7 backward", air(x, 20), -3);
        x.set(0, 0, 7, 1);
        Check.due("7 ahead of 7", air(x, 6), -3);
        Check.due("7 at 7", air(x, 7), 3);
        Check.due("7 another plan has none of these", x.air(1, 1, 0, NONE, 0, 7), 0);
        x.fan(0, 1, 1000000, 0);
        Check.due("7 another fan has none of these", air(x, 7), 3);
        x.set(1, 0, 4, 1);
        Check.due("7 plan 1 alone, told for an earlier minute", x.air(1, 1, 0, NONE, 0, 20), 3);
        Check.due("7 plan 0 still", air(x, 20), -3);
    }

    /** "the first one counts in MINUTES ahead of k, the other one from k on", k from 0 to 21. */
    private static void courses() {
        SmokeTubes x = joined(0);
        x.fan(0, 2, 1000000, 0);
        x.set(1, 0, 0, 1);
        x.set(3, 0, 0, -1);
        Check.due("14 k 0: the other one in 0", x.air(1, 3, 0, NONE, 0, 0), -2);
        Check.due("14 k 1: the first one in 0", x.air(1, 3, 1, NONE, 0, 0), 2);
        Check.due("14 k 1: the other one in 1", x.air(1, 3, 1, NONE, 0, 1), -2);
        Check.due("14 k 20: the first one in 19", x.air(1, 3, 20, NONE, 0, 19), 2);
        Check.due("14 k 20: the other one in 20", x.air(1, 3, 20, NONE, 0, 20), -2);
        Check.due("14 k 21: the first one in 20", x.air(1, 3, 21, NONE, 0, 20), 2);
        x.set(2, 0, 9, 1);
        Check.due("14 what the other one was told ahead of k counts from k on", x.air(0, 2, 12, NONE, 0, 12), 2);
        Check.due("14 and not ahead of k", x.air(0, 2, 12, NONE, 0, 11), 0);
        Check.due("14 what the first one was told counts no more from k on", x.air(2, 0, 12, NONE, 0, 12), 0);
    }

    // ---- air: "together, but not below -12 or above 12"

    private static void airAtMostTwelve() {
        for (int sign = -1; sign <= 1; sign += 2) {
            SmokeTubes x = joined(8 * sign);
            Check.due("14 the draught alone", air(x, 0), 8 * sign);
            x.fan(0, 3, 1000000, 0);
            x.fan(0, 1, 1000000, 0);
            x.fan(0, 1, 1000000, 0);
            x.set(0, 0, 0, sign);
            Check.due("14 11", air(x, 0), 11 * sign);
            x.set(0, 1, 0, sign);
            Check.due("14 just 12", air(x, 0), 12 * sign);
            x.set(0, 2, 0, sign);
            Check.due("14 13 is 12", air(x, 0), 12 * sign);
            x.set(0, 0, 0, -sign);
            Check.due("14 forward and backward together", air(x, 0), 7 * sign);
        }
    }

    /** All fans there can be, on one way: they count together ahead of the bound. */
    private static void airOfAllFans() {
        SmokeTubes x = joined(8);
        for (int fan = 0; fan < 8; fan++) {
            x.fan(0, 6, 1000000, 0);
            x.set(0, fan, 0, fan < 4 ? 1 : -1);
            x.set(1, fan, 0, -1);
            x.set(2, fan, 0, 1);
        }
        Check.due("14 four against four", air(x, 0), 8);
        Check.due("14 all backward", x.air(1, 1, 0, NONE, 0, 0), -12);
        Check.due("14 all forward", x.air(2, 2, 0, NONE, 0, 0), 12);
    }

    // ---- above: "on which not 4 or more AIR comes towards it"

    private static void heldBack() {
        int[] draughts = {-8, -5, -4, -3, -1, 0, 1, 3, 4, 5, 8};
        for (int draught : draughts) {
            SmokeTubes x = joined(draught);
            x.fire(0, 0, 1, 80, 0, 80);
            x.fire(1, 0, 1, 80, 0, 80);
            Check.due("15 from the first end, air " + draught, above(x, 1, 1), draught > -4 ? 10 : 0);
            Check.due("15 from the other end, air " + draught, x.smoke(0, 0, 0, 1, 0, 1, true), draught < 4 ? 10 : 0);
        }
    }

    /** "the eighth of a (rounded down)": of 7 nothing goes, of 8 and of 15 goes 1, of 16 go 2. */
    private static void eighths() {
        int[][] firsts = {{0, 0}, {1, 0}, {7, 0}, {8, 1}, {15, 1}, {16, 2}, {100000, 12500}};
        for (int[] f : firsts) {
            SmokeTubes x = joined(0);
            x.fire(0, 0, 1, f[0], 0, 100000);
            Check.due("15 the eighth of " + f[0], above(x, 1, 1), f[1]);
            Check.due("16 the eighth of " + f[0] + " is gone", total(alone(1, f[0]), 1, 1), f[1]);
            Check.due("16 no out, nothing gone", total(alone(0, f[0]), 1, 1), 0);
        }
        SmokeTubes both = alone(1, 15);
        both.fire(0, 0, 2, 15, 0, 15);
        Check.due("15 what lay there and what the fire gives count together", both.given(0, 0, 0, 1, 2, 1), 1 + 3);
    }

    /** So many ways from piece 0 to piece 1, and an out of piece 0 or none. */
    private static SmokeTubes manyWays(int ways, int out, int first) {
        SmokeTubes x = alone(out, first);
        x.piece(10, 0);
        for (int way = 0; way < ways; way++) {
            x.way(0, 1, 1, 5, 0);
        }
        return x;
    }

    /** "WAYS by number, then the OUT, each at most what is left of a". */
    private static void whatIsLeftAbove() {
        SmokeTubes seven = manyWays(7, 1, 807);
        Check.due("15 seven ways", above(seven, 1, 1), 700);
        Check.due("16 and the out", total(seven, 1, 1), 100);
        Check.due("15 7 are left, of which 1 is mixed", above(seven, 0, 1), 6);
        SmokeTubes eight = manyWays(8, 1, 807);
        Check.due("15 eight ways", above(eight, 1, 1), 800);
        Check.due("16 the out gets what is left", total(eight, 1, 1), 7);
        Check.due("15 nothing is left", total(eight, 1, 3), 800);
        SmokeTubes nine = manyWays(9, 1, 807);
        Check.due("15 the ninth way gets what is left", above(nine, 1, 1), 807);
        Check.due("16 the out gets nothing", total(nine, 1, 1), 0);
        SmokeTubes twelve = manyWays(12, 1, 800);
        Check.due("15 twelve ways: eight of them have it all", above(twelve, 1, 1), 800);
    }

    // ---- mixing: "all is MIXED from then on, if a WAY of it has AIR of 6 and more, or -6 and less; else the fourth"

    private static void stirs() {
        for (int draught = -8; draught <= 8; draught++) {
            SmokeTubes x = joined(draught);
            x.fire(0, 0, 1, 800, 0, 800);
            x.fire(1, 0, 1, 800, 0, 800);
            boolean all = draught >= 6 || draught <= -6;
            int left = draught > -4 ? 700 : 800;
            Check.due("15 mixed at the first end, air " + draught, mixed(x, 0, 1), all ? left : left / 4);
            int other = draught < 4 ? 700 : 800;
            Check.due("15 mixed at the other end, air " + draught, x.smoke(0, 0, 0, 1, 1, 1, false),
                all ? other : other / 4);
        }
        SmokeTubes elsewhere = joined(0);
        elsewhere.piece(1, 0);
        elsewhere.way(1, 2, 1, 1, 8);
        elsewhere.fire(0, 0, 1, 800, 0, 800);
        Check.due("15 a way of another piece doesn't stir", mixed(elsewhere, 0, 1), 175);
        SmokeTubes second = joined(0);
        second.way(0, 1, 1, 1, -6);
        second.fire(0, 0, 1, 800, 0, 800);
        Check.due("15 one way of it is enough", mixed(second, 0, 1), 700);
    }

    /** "the fourth of it (rounded down)". */
    private static void fourths() {
        int[][] firsts = {{0, 0}, {1, 0}, {3, 0}, {4, 1}, {7, 1}, {8, 2}, {11, 2}, {12, 3}};
        for (int[] f : firsts) {
            SmokeTubes x = alone(0, f[0]);
            Check.due("15 the fourth of " + f[0], mixed(x, 0, 1), f[1]);
            Check.due("15 the rest of " + f[0] + " lies above", above(x, 0, 1), f[0] - f[1]);
        }
    }

    // ---- mixed smoke goes: "m times AIR by 16, rounded down", "two sixteenths are GONE by its OUT"

    /** Piece 0 of a stirred house with so much mixed in minute 1, and a way to piece 2 with so much air. */
    private static SmokeTubes drives(int many, int draught) {
        SmokeTubes x = new SmokeTubes();
        x.piece(60, 0);
        x.piece(60, 0);
        x.way(1, 0, 1, 40, 6);
        x.piece(60, 0);
        x.way(0, 2, 1, 40, draught);
        x.fire(0, 0, 1, many, 0, 100000);
        return x;
    }

    private static void sixteenths() {
        int[][] cases = {{1, 7, 0}, {2, 7, 0}, {3, 7, 1}, {5, 7, 2}};
        for (int[] c : cases) {
            SmokeTubes x = drives(c[1], c[0]);
            Check.due("15 all of it is mixed", mixed(x, 0, 1), c[1]);
            Check.due("15 " + c[0] + " sixteenths of " + c[1], mixed(x, 2, 2), c[2]);
            Check.due("15 the rest stays", mixed(x, 0, 2), c[1] - c[2]);
        }
        SmokeTubes fifteen = drives(17, 1);
        Check.due("15 15 are mixed", mixed(fifteen, 0, 1), 15);
        Check.due("15 a sixteenth of 15", mixed(fifteen, 0, 2), 15);
        SmokeTubes sixteen = drives(18, 1);
        Check.due("15 16 are mixed", mixed(sixteen, 0, 1), 16);
        Check.due("15 a sixteenth of 16", mixed(sixteen, 0, 2), 15);
        SmokeTubes twice = drives(16, 4);
        twice.way(0, 2, 1, 1, 4);
        Check.due("15 of 16 two go above by each of two ways", mixed(twice, 0, 1), 12);
        Check.due("15 3 by each of the two ways, and 1 of the 4 above", mixed(twice, 2, 2), 3 + 3 + 1);
        SmokeTubes calm = drives(18, 0);
        Check.due("15 no air, nothing goes", mixed(calm, 0, 2), 16);
        SmokeTubes against = drives(18, -1);
        Check.due("15 air that comes takes nothing", mixed(against, 0, 2), 16);
        SmokeTubes calmThere = drives(18, 4);
        Check.due("15 what is mixed only now goes later", mixed(calmThere, 2, 1), 0);
    }

    private static void goneByTheOut() {
        int[][] cases = {{7, 7, 0}, {9, 8, 1}, {17, 15, 1}, {18, 16, 2}};
        for (int[] c : cases) {
            SmokeTubes x = Houses.stirred(1, c[0]);
            long was = total(x, 1, 1);
            Check.due("15 mixed", mixed(x, 0, 1), c[1]);
            Check.due("16 two sixteenths of " + c[1], total(x, 2, 1) - was, c[2]);
            SmokeTubes closed = Houses.stirred(0, c[0]);
            Check.due("16 no out, nothing gone", total(closed, 20, 1), 0);
            SmokeTubes wide = Houses.stirred(40, c[0]);
            Check.due("16 however wide it is", total(wide, 2, 1), was + c[2]);
        }
        SmokeTubes door = Houses.stirred(0, 800);
        door.door(0, 40, 1);
        door.make(0, true);
        Check.due("16 a door is no out: nothing gone", total(door, 20, 1), 0);
    }

    /**
     * "WAYS by number, then the OUT, each at most what is left of m". In minute 0 the air comes to piece 0 by both ways,
     * which stirs up all but what is gone; from minute 1 on it goes off by them.
     */
    private static void whatIsLeftMixed() {
        int[][] cases = {{12, 12, 12, 4, 0}, {12, 3, 12, 3, 1}, {12, 2, 12, 2, 2}, {12, 4, 12, 4, 0}, {8, 7, 8, 7, 1}};
        for (int[] c : cases) {
            SmokeTubes x = new SmokeTubes();
            x.piece(9, 1);
            x.piece(9, 0);
            x.piece(9, 0);
            x.way(0, 1, 1, 1, 0);
            x.way(0, 2, 1, 1, 0);
            push(x, 0, c[0]);
            push(x, 1, c[1]);
            x.fire(0, 0, 1, 18, 0, 18);
            Check.due("16 of 18 above 2 are gone by the out", total(x, 1, 1), 2);
            Check.due("15 16 are mixed", mixed(x, 0, 1), 16);
            Check.due("15 way 0 takes " + c[2], mixed(x, 1, 2), c[2]);
            Check.due("15 way 1 takes " + c[3], mixed(x, 2, 2), c[3]);
            Check.due("16 the out takes " + c[4], total(x, 2, 1) - 2, c[4]);
            Check.due("15 the rest stays", mixed(x, 0, 2), 16 - c[2] - c[3] - c[4]);
        }
    }

    /** In minute 0 air comes to piece 0 by the way, from minute 1 on so much goes off by it: two fans. */
    private static void push(SmokeTubes x, int way, int air) {
        int strong = Math.min(air, 6);
        int first = x.count(3);
        x.fan(way, 6, 1000000, 0);
        x.fan(way, strong, 1000000, 0);
        x.set(0, first, 0, -1);
        x.set(0, first, 1, air > 6 ? 1 : 0);
        x.set(0, first + 1, 1, 1);
        int rest = air > 6 ? air - 6 - strong : 0;
        if (rest < 0) {
            x.fan(way, -rest, 1000000, 0);
            x.set(0, first + 2, 1, -1);
        }
    }

    // ---- water: "of what is MIXED in a PIECE that is WASHED in the next MINUTE the fourth (rounded down)"

    private static void washed() {
        int[][] cases = {{1, 0}, {3, 0}, {4, 1}, {7, 1}};
        for (int[] c : cases) {
            SmokeTubes x = Houses.stirred(0, c[0]);
            x.water(0, 1);
            Check.due("16 the fourth of " + c[0], total(x, 1, 2), c[1]);
            Check.due("15 the rest stays", mixed(x, 0, 1), c[0] - c[1]);
        }
        SmokeTubes arrives = drives(7, 3);
        arrives.fire(0, 0, 1, 80, 0, 80);
        arrives.water(2, 2);
        long came = arrives.smoke(0, 0, 0, 1, 2, 2, false);
        long went = arrives.given(0, 0, 0, 1, 2, 2);
        Check.due("15 washed behind what came: 70 times 3 by 16, and the fourth of 9", came + went, 13 + 2);
        Check.due("16 the fourth of all that", went, 3);
    }

    /** "WASHED is a PIECE by WATER from a MINUTE on (never at first)", 21: never. */
    private static void washedFrom() {
        SmokeTubes never = Houses.stirred(0, 800);
        Check.due("16 never at first", total(never, 20, 2), 0);
        never.water(0, 21);
        Check.due("4 21: never", total(never, 20, 2), 0);
        SmokeTubes last = Houses.stirred(0, 800);
        last.water(0, 20);
        Check.due("4 not in 19", total(last, 19, 2), 0);
        Check.due("4 in 20", total(last, 20, 2), 200);
        SmokeTubes two = Houses.stirred(0, 800);
        two.water(0, 19);
        Check.due("4 in 19 and in 20", total(two, 20, 2), 200 + 150);
        SmokeTubes zero = Houses.stirred(0, 800);
        zero.water(0, 0);
        SmokeTubes one = Houses.stirred(0, 800);
        one.water(0, 1);
        Check.due("4 from 0 on: nothing is there to wash in 0", total(zero, 0, 2), 0);
        Check.due("4 from 0 on: in 1", total(zero, 1, 2), 200);
        Check.due("4 from 1 on is as from 0 on", total(one, 20, 2), total(zero, 20, 2));
        SmokeTubes other = Houses.stirred(0, 800);
        other.water(1, 0);
        Check.due("4 another piece", total(other, 20, 2), 0);
        zero.water(0, 21);
        Check.due("4 never again", total(zero, 20, 2), 0);
    }

    // ---- given: minutes 0 and 20, each what

    private static void givenUpTo() {
        SmokeTubes x = Houses.stirred(3, 800);
        x.water(0, 0);
        for (int what = 0; what < 4; what++) {
            Check.due("16 nothing in 0, what " + what, total(x, 0, what), 0);
        }
        Check.due("16 gave", total(x, 1, 0), 800);
        Check.due("16 gone", total(x, 1, 1), 100);
        Check.due("16 washed away", total(x, 1, 2), 175);
        Check.due("16 what is in all", total(x, 1, 3), 525);
        Check.due("16 all up to 20", total(x, 20, 1) + total(x, 20, 2) + total(x, 20, 3), 800);
    }

    // ---- lost: "as much ABOVE as it BEARS, or more, in a PIECE of its CABLE, or in one of its WAY's ends"

    /** 800 in piece 0, which has no way: 600, 450, 338 .. lie there. Piece 3 is an end of nothing. */
    private static SmokeTubes cabled() {
        SmokeTubes x = alone(0, 800);
        x.piece(1, 0);
        x.piece(1, 0);
        x.way(1, 2, 1, 1, 0);
        return x;
    }

    private static void bears() {
        SmokeTubes x = cabled();
        x.fan(0, 2, 599, 1);
        x.fan(0, 2, 600, 1);
        x.fan(0, 2, 601, 1);
        x.fan(0, 2, 450, 1);
        x.fan(0, 2, 1, 1);
        x.fan(0, 2, 1, 0);
        x.fan(0, 2, 1, 6);
        Check.due("17 more than it bears", x.lost(0, 0, 0, 0, 0), 2);
        Check.due("17 as much as it bears", x.lost(0, 0, 0, 0, 1), 2);
        Check.due("17 less than it bears", x.lost(0, 0, 0, 0, 2), NONE);
        Check.due("17 the first minute counts, not the last", x.lost(0, 0, 0, 0, 3), 2);
        Check.due("17 bears 1", x.lost(0, 0, 0, 0, 4), 2);
        Check.due("17 no cable there", x.lost(0, 0, 0, 0, 5), NONE);
        Check.due("17 a cable where nothing is", x.lost(0, 0, 0, 0, 6), NONE);
        for (int fan = 0; fan < 7; fan++) {
            Check.due("17 none burns", x.lost(0, 0, 0, NONE, fan), NONE);
        }
    }

    /** Each end of its way counts, and no other piece. */
    private static void endsOfItsWay() {
        SmokeTubes x = cabled();
        x.way(0, 1, 1, 1, -4);
        x.way(2, 0, 1, 1, 4);
        x.fan(0, 2, 600, 0);
        x.fan(1, 2, 600, 0);
        x.fan(2, 2, 600, 0);
        Check.due("15 600 in piece 0", above(x, 0, 1), 600);
        Check.due("17 neither end", x.lost(0, 0, 0, 0, 0), NONE);
        Check.due("17 the first end", x.lost(0, 0, 0, 0, 1), 2);
        Check.due("17 the other end", x.lost(0, 0, 0, 0, 2), 2);
    }

    /** What is mixed doesn't count, only what lies above. */
    private static void mixedHarmsNoFan() {
        SmokeTubes x = Houses.stirred(0, 800);
        x.fan(0, 1, 1, 3);
        Check.due("17 all is mixed", mixed(x, 0, 1), 800);
        Check.due("17 the fan isn't lost", x.lost(0, 0, 0, 0, 0), NONE);
    }

    /** "LOST in a MINUTE and all behind it", by what there was "in the MINUTE ahead of it". */
    private static void lostForGood() {
        SmokeTubes x = cabled();
        x.fan(0, 2, 600, 1);
        x.set(0, 0, 0, 1);
        Check.due("17 it isn't lost in the minute itself", x.air(0, 0, 0, 0, 0, 1), 2);
        Check.due("17 it is in the next one", x.air(0, 0, 0, 0, 0, 2), 0);
        Check.due("17 less lies there now", above(x, 0, 2), 450);
        Check.due("17 but it stays lost", x.air(0, 0, 0, 0, 0, 3), 0);
        Check.due("17 up to 20", x.air(0, 0, 0, 0, 0, 20), 0);
        Check.due("17 none burns: not lost", x.air(0, 0, 0, NONE, 0, 20), 2);
        x.fire(0, 18, 21, 800, 0, 800);
        Check.due("17 lost in 20", x.lost(0, 0, 0, 1, 0), 20);
        Check.due("17 air in 19", x.air(0, 0, 0, 1, 0, 19), 2);
        Check.due("17 air in 20", x.air(0, 0, 0, 1, 0, 20), 0);
        x.fire(0, 19, 21, 800, 0, 800);
        Check.due("17 600 in 20 harm nobody any more", x.lost(0, 0, 0, 2, 0), NONE);
        Check.due("17 air in 20", x.air(0, 0, 0, 2, 0, 20), 2);
    }

    /** The last piece there may be, on a cable with all of them. */
    private static void cableOfEight() {
        SmokeTubes x = new SmokeTubes();
        for (int i = 0; i < 8; i++) {
            x.piece(1, 0);
        }
        x.way(0, 1, 1, 1, 0);
        x.fan(0, 1, 600, 255);
        x.fan(0, 1, 600, 128);
        x.fan(0, 1, 600, 127);
        x.fire(7, 0, 1, 800, 0, 800);
        Check.due("17 piece 7 among all", x.lost(0, 0, 0, 0, 0), 2);
        Check.due("17 piece 7 alone", x.lost(0, 0, 0, 0, 1), 2);
        Check.due("17 all but piece 7", x.lost(0, 0, 0, 0, 2), NONE);
    }

    // ---- shut: "if more is MIXED there than EYES (0 to 1,000,000; 1,000 at first)"

    private static void eyes() {
        Check.due("18 1000 with eyes as at first", Houses.stirred(0, 1000).shut(0, 0, 0, 0, 0, 1), false);
        Check.due("18 1001 with eyes as at first", Houses.stirred(0, 1001).shut(0, 0, 0, 0, 0, 1), true);
        SmokeTubes one = Houses.stirred(0, 1);
        one.eyes(0);
        Check.due("18 1 with eyes 0", one.shut(0, 0, 0, 0, 0, 1), true);
        Check.due("18 0 with eyes 0", one.shut(0, 0, 0, 0, 0, 0), false);
        Check.due("18 0 with eyes 0 elsewhere", one.shut(0, 0, 0, 0, 1, 20), false);
        one.eyes(1);
        Check.due("18 1 with eyes 1", one.shut(0, 0, 0, 0, 0, 1), false);
        SmokeTubes most = new SmokeTubes();
        most.piece(1, 0);
        most.piece(1, 0);
        most.way(1, 0, 1, 1, 6);
        most.fire(0, 0, 21, 100000, 0, 100000);
        most.eyes(1000000);
        Check.due("18 a million in 10", mixed(most, 0, 10), 1000000);
        Check.due("18 a million with eyes of a million", most.shut(0, 0, 0, 0, 0, 10), false);
        Check.due("18 more in 11", most.shut(0, 0, 0, 0, 0, 11), true);
        most.eyes(999999);
        Check.due("18 a million with eyes of one less", most.shut(0, 0, 0, 0, 0, 10), true);
    }

    /** "0 in MINUTE 0", however much a fire gives. */
    private static void nothingInMinuteNought() {
        SmokeTubes x = Houses.full();
        for (int piece = 0; piece < 8; piece++) {
            Check.due("15 nothing above in 0", x.smoke(0, 1, 3, 0, piece, 0, true), 0);
            Check.due("15 nothing mixed in 0", x.smoke(0, 1, 3, 0, piece, 0, false), 0);
            Check.due("18 nothing is shut in 0", x.shut(0, 1, 3, 0, piece, 0), false);
        }
    }

    public static void main(String[] args) {
        fireBeginsAndEnds();
        fireTop();
        burnsAlone();
        plansFromAMinuteOn();
        courses();
        airAtMostTwelve();
        airOfAllFans();
        heldBack();
        eighths();
        whatIsLeftAbove();
        stirs();
        fourths();
        sixteenths();
        goneByTheOut();
        whatIsLeftMixed();
        washed();
        washedFrom();
        givenUpTo();
        bears();
        endsOfItsWay();
        mixedHarmsNoFan();
        lostForGood();
        cableOfEight();
        eyes();
        nothingInMinuteNought();
        Check.end("SmokeEdgesTest");
    }
}
