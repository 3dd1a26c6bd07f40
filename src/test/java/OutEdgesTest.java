/** Edges of section 3 of the document, and of promises 19 to 22: who can be out, and the side that proves it. */
public final class OutEdgesTest {
    private static final int NONE = SmokeTubes.NONE;

    private static int out(SmokeTubes x, int by) {
        return x.out(0, 0, 0, NONE, by);
    }

    private static int all(SmokeTubes x) {
        return x.all(0, 0, 0, NONE);
    }

    private static SmokeTubes one(int room, int out, int people, int start) {
        SmokeTubes x = new SmokeTubes();
        x.piece(room, out);
        x.group(0, people, start);
        return x;
    }

    /** A piece with people, a way, a piece with an out; nothing but the way hinders. */
    private static SmokeTubes two(int minutes, int width, int people, int start) {
        SmokeTubes x = new SmokeTubes();
        x.piece(200, 0);
        x.piece(200, 40);
        x.way(0, 1, minutes, width, 0);
        x.group(0, people, start);
        return x;
    }

    /** "a GROUP in its own, in the MINUTE of its start, if that isn't behind t", "they are out in the next MINUTE". */
    private static void starts() {
        SmokeTubes x = one(60, 40, 1, 5);
        Check.due("19 ahead of its start", out(x, 4), 0);
        Check.due("19 in its start it isn't out yet", out(x, 5), 0);
        Check.due("19 a minute later", out(x, 6), 1);
        Check.due("20 a minute later", all(x), 6);
        Check.due("19 starts in 19", out(one(60, 40, 1, 19), 20), 1);
        Check.due("20 starts in 19", all(one(60, 40, 1, 19)), 20);
        Check.due("19 starts in 20", out(one(60, 40, 1, 20), 20), 0);
        Check.due("20 starts in 20", all(one(60, 40, 1, 20)), NONE);
        Check.due("19 starts in 0, by 0", out(one(60, 40, 1, 0), 0), 0);
        Check.due("19 starts in 0, by 1", out(one(60, 40, 1, 0), 1), 1);
        Check.due("20 starts in 0", all(one(60, 40, 1, 0)), 1);
    }

    /** "an OUT of a width (0 to 40 people in a MINUTE; 0: none)". */
    private static void widthOfAnOut() {
        Check.due("19 no out", out(one(60, 0, 60, 0), 20), 0);
        Check.due("20 no out", all(one(60, 0, 60, 0)), NONE);
        Check.due("19 1 wide", out(one(60, 1, 60, 0), 1), 1);
        Check.due("19 1 wide, 20 minutes", out(one(60, 1, 60, 0), 20), 20);
        Check.due("19 40 wide", out(one(60, 40, 60, 0), 1), 40);
        Check.due("19 40 wide, the rest", out(one(60, 40, 60, 0), 2), 60);
        Check.due("20 as many as it is wide", all(one(60, 20, 20, 0)), 1);
        Check.due("20 one more", all(one(60, 20, 21, 0)), 2);
        Check.due("20 just by 20", all(one(60, 3, 60, 0)), 20);
        SmokeTubes more = one(60, 2, 40, 0);
        Check.due("20 2 in each of 20 minutes", all(more), 20);
        more.group(0, 1, 0);
        Check.due("20 one more can't", all(more), NONE);
        Check.due("19 but these can", out(more, 20), 40);
    }

    /** "as many in all as it has ROOM", "Who isn't let on is lost". */
    private static void room() {
        Check.due("19 room for all", out(one(9, 40, 9, 0), 20), 9);
        Check.due("20 room for all", all(one(9, 40, 9, 0)), 1);
        Check.due("19 one isn't let on", out(one(9, 40, 10, 0), 20), 9);
        Check.due("20 one is lost", all(one(9, 40, 10, 0)), NONE);
        Check.due("19 room 1", out(one(1, 40, 60, 0), 20), 1);
        SmokeTubes groups = one(9, 40, 5, 3);
        groups.group(0, 5, 3);
        Check.due("19 two groups in one minute", out(groups, 20), 9);
        SmokeTubes later = one(9, 5, 5, 3);
        later.group(0, 9, 4);
        Check.due("19 5 are out when 9 begin", out(later, 20), 14);
        SmokeTubes slow = one(9, 4, 5, 3);
        slow.group(0, 9, 4);
        Check.due("19 1 is there still when 9 begin", out(slow, 20), 13);
        SmokeTubes full = new SmokeTubes();
        full.piece(200, 40);
        for (int i = 0; i < 10; i++) {
            full.group(0, 60, 0);
        }
        Check.due("19 room for 200 of 600", out(full, 20), 200);
    }

    /** Those who come by a way and those who are there already share the room. */
    private static void roomWhereTheyCome() {
        SmokeTubes x = new SmokeTubes();
        x.piece(60, 0);
        x.piece(5, 1);
        x.way(0, 1, 1, 40, 0);
        x.group(0, 40, 0);
        x.group(1, 5, 1);
        Check.due("19 4 are there in 2, and 1 comes", out(x, 20), 19);
        x.undo();
        Check.due("19 without them 1 in each minute from 1 on", out(x, 20), 19);
    }

    /** "begin to be at its other end as many MINUTES later as it is LONG (by WALK)": 1 to 4, times 1 to 3. */
    private static void longWays() {
        for (int minutes = 1; minutes <= 4; minutes++) {
            for (int walk = 1; walk <= 3; walk++) {
                int takes = minutes * walk;
                SmokeTubes x = two(minutes, 40, 1, 0);
                x.walk(walk);
                Check.due("19 just there: " + takes, out(x, takes), 0);
                Check.due("19 and out: " + takes, out(x, takes + 1), 1);
                Check.due("20 out: " + takes, all(x), takes + 1);
            }
        }
        SmokeTubes last = two(4, 40, 1, 7);
        last.walk(3);
        Check.due("19 there in 19", out(last, 20), 1);
        SmokeTubes late = two(4, 40, 1, 8);
        late.walk(3);
        Check.due("19 there in 20", out(late, 20), 0);
        Check.due("20 there in 20", all(late), NONE);
    }

    /** "so many as it is wide in each MINUTE and each way round". */
    private static void widthOfAWay() {
        Check.due("19 1 wide", out(two(1, 1, 60, 0), 20), 19);
        Check.due("19 40 wide", out(two(1, 40, 60, 0), 2), 40);
        Check.due("19 the rest a minute later", out(two(1, 40, 60, 0), 3), 60);
        Check.due("20 as many as it is wide", all(two(1, 9, 9, 0)), 2);
        Check.due("20 one more", all(two(1, 9, 10, 0)), 3);
    }

    /**
     * Two in each of two pieces in 0, and two more in 1, where there is room for two: one goes out, one has to go to the
     * other piece, both at once.
     */
    private static SmokeTubes bothWaysRound() {
        SmokeTubes x = new SmokeTubes();
        x.piece(2, 1);
        x.piece(2, 1);
        x.way(0, 1, 2, 1, 0);
        for (int piece = 0; piece < 2; piece++) {
            x.group(piece, 2, 0);
            x.group(piece, 2, 1);
        }
        return x;
    }

    private static void eachWayRound() {
        SmokeTubes x = bothWaysRound();
        Check.due("19 one each way round", out(x, 4), 8);
        Check.due("20 all", all(x), 4);
        x.walk(2);
        Check.due("19 a slower walk has them out later", out(x, 4), 6);
        Check.due("19 later", out(x, 5), 8);
    }

    /**
     * "the most that can be out": one who can go to either of two outs leaves the one to who can't go to the other,
     * whichever is which and whoever came first.
     */
    private static void theMost() {
        for (int kind = 0; kind < 8; kind++) {
            SmokeTubes x = new SmokeTubes();
            x.piece(9, 1);
            x.piece(9, 1);
            x.piece(9, 0);
            x.piece(9, 0);
            int first = kind & 1;
            x.way(2, first, 1, 9, 0);
            x.way(2, 1 - first, 1, 9, 0);
            x.way(3, kind >> 1 & 1, 1, 9, 0);
            int free = kind >> 2 & 1;
            x.group(2 + free, 1, 0);
            x.group(3 - free, 1, 0);
            Check.due("19 both are out by 2, kind " + kind, out(x, 2), 2);
            Check.due("20 both are out by 2, kind " + kind, all(x), 2);
            x.group(3, 1, 0);
            Check.due("19 of three two by 2, kind " + kind, out(x, 2), 2);
            Check.due("19 all three by 3, kind " + kind, out(x, 3), 3);
        }
    }

    /** "nobody if it is SHUT then". */
    private static void shut() {
        SmokeTubes x = Houses.stirred(40, 9);
        x.eyes(0);
        x.group(0, 3, 0);
        x.group(0, 5, 1);
        Check.due("18 shut in 1", x.shut(0, 0, 0, 0, 0, 1), true);
        Check.due("19 those in 0 are out by 1", x.out(0, 0, 0, 0, 1), 3);
        Check.due("19 those who start in 1 aren't let on", x.out(0, 0, 0, 0, 20), 3);
        Check.due("20 they are lost", x.all(0, 0, 0, 0), NONE);
        Check.due("20 none burns", all(x), 2);
        x.eyes(8);
        Check.due("19 8 mixed with eyes 8", x.out(0, 0, 0, 0, 20), 8);
        Check.due("20 8 mixed with eyes 8", x.all(0, 0, 0, 0), 2);
        x.eyes(7);
        Check.due("19 8 mixed with eyes 7", x.out(0, 0, 0, 0, 20), 3);
    }

    /** They are on a way while a piece is shut: only where they begin to be counts. */
    private static void shutWhileOnAWay() {
        SmokeTubes x = new SmokeTubes();
        x.piece(9, 0);
        x.piece(9, 9);
        x.piece(9, 0);
        x.way(0, 1, 2, 9, 0);
        x.way(1, 2, 1, 1, 6);
        x.fire(1, 0, 1, 16, 0, 16);
        x.group(0, 1, 0);
        Check.due("15 mixed in 1", x.smoke(0, 0, 0, 0, 1, 1, false), 10);
        Check.due("15 mixed in 2", x.smoke(0, 0, 0, 0, 1, 2, false), 6);
        x.eyes(6);
        Check.due("18 shut in 1", x.shut(0, 0, 0, 0, 1, 1), true);
        Check.due("18 not in 2", x.shut(0, 0, 0, 0, 1, 2), false);
        Check.due("19 there in 2, out in 3", x.out(0, 0, 0, 0, 3), 1);
        x.eyes(5);
        Check.due("18 shut in 2", x.shut(0, 0, 0, 0, 1, 2), true);
        Check.due("19 not out in 3", x.out(0, 0, 0, 0, 3), 0);
    }

    /** "or go out by OUT or a DOOR (so many as it is wide ..)": all that are in one piece together; those MADE. */
    private static void doors() {
        SmokeTubes x = one(60, 1, 60, 0);
        for (int door = 0; door < 6; door++) {
            x.door(0, 1 << door, 1);
        }
        Check.due("19 none is made", out(x, 1), 1);
        x.make(0, true);
        Check.due("19 door 0", out(x, 1), 2);
        x.make(5, true);
        Check.due("19 doors 0 and 5", out(x, 1), 1 + 1 + 32);
        x.make(0, false);
        Check.due("19 door 5", out(x, 1), 1 + 32);
        for (int door = 0; door < 6; door++) {
            x.make(door, true);
        }
        Check.due("19 all", out(x, 1), 60);
        SmokeTubes widest = one(60, 0, 60, 0);
        widest.door(0, 40, 1000);
        widest.make(0, true);
        Check.due("19 a door 40 wide", out(widest, 1), 40);
        SmokeTubes elsewhere = one(60, 0, 60, 0);
        elsewhere.piece(60, 0);
        elsewhere.door(1, 40, 1);
        elsewhere.make(0, true);
        Check.due("19 a door of another piece", out(elsewhere, 20), 0);
    }

    // ---- sides

    private static int side(SmokeTubes x, int by, int minute) {
        return x.side(0, 0, 0, NONE, by, minute);
    }

    /** Numbers of a side: 1 for beginning to be in piece 0 .. 128 in piece 7, 256 for being in 0 .. 32768 in 7. */
    private static void numbersOfASide() {
        SmokeTubes x = new SmokeTubes();
        for (int piece = 0; piece < 8; piece++) {
            x.piece(60, 0);
        }
        for (int piece = 0; piece < 8; piece++) {
            x.group(piece, 60, 20);
            Check.due("21 pieces up to " + piece, side(x, 20, 20), 257 * ((2 << piece) - 1));
        }
        Check.due("21 not ahead of it", side(x, 20, 19), 0);
        Check.due("21 those who start behind by", side(x, 19, 19), 0);
        x.row(0, 1, 21);
        x.lay(0, 0, 0, NONE, 20, 0);
        Check.due("22 it proves that nobody is out", x.worth(0, 0, 0, NONE, 20, 0), 0);
    }

    /** By 0 nobody can be out: all who start in 0 are on the side, up to where there is room. */
    private static void sideByNought() {
        SmokeTubes x = one(7, 9, 7, 0);
        Check.due("21 by 0: begin and being", side(x, 0, 0), 257);
        Check.due("21 by 1: all are out", side(x, 1, 0), 0);
        Check.due("21 by 1: all are out", side(x, 1, 1), 0);
        SmokeTubes narrow = one(7, 6, 7, 0);
        Check.due("21 by 1: the out bounds them", side(narrow, 1, 0), 257);
        Check.due("21 by 1: and they stay", side(narrow, 1, 1), 257);
        SmokeTubes small = one(6, 6, 7, 0);
        Check.due("21 of like ones the least: the room alone", side(small, 1, 0), 1);
        Check.due("21 and nothing behind it", side(small, 1, 1), 0);
        Check.due("21 nobody starts by then", side(one(7, 9, 7, 3), 2, 2), 0);
    }

    /** Who comes to be in a piece in the last minute is on the side there too; a minute earlier nobody is. */
    private static void sideAtTheEnd() {
        SmokeTubes x = two(2, 7, 5, 0);
        Check.due("21 by 1: nobody is there yet", side(x, 1, 1), 257);
        Check.due("21 by 2, in 0", side(x, 2, 0), 257);
        Check.due("21 by 2, in 1", side(x, 2, 1), 257);
        Check.due("21 by 2, in 2: at the other end, too", side(x, 2, 2), 257 + 514);
        x.walk(2);
        Check.due("21 by 3: nobody is there yet", side(x, 3, 3), 257);
        Check.due("21 by 4, in 4: at the other end, too", side(x, 4, 4), 257 + 514);
    }

    /** Where it is shut nobody is: the begin alone, worth nothing. */
    private static void sideWhereItIsShut() {
        SmokeTubes x = Houses.stirred(40, 9);
        x.eyes(0);
        x.group(0, 5, 1);
        Check.due("21 shut in 1", x.side(0, 0, 0, 0, 3, 1), 1);
        Check.due("21 nothing behind it", x.side(0, 0, 0, 0, 3, 2), 0);
        Check.due("21 none burns", x.side(0, 0, 0, NONE, 3, 1), 0);
    }

    // ---- worths

    private static void write(SmokeTubes x, long... numbers) {
        x.row(0, 3, numbers.length);
        for (int place = 0; place < numbers.length; place++) {
            x.write(0, place, numbers[place]);
        }
    }

    private static int worth(SmokeTubes x, int by) {
        return x.worth(0, 0, 0, NONE, by, 0);
    }

    /** "GROUPS (that start by t) whose begin isn't in it". */
    private static void worthOfGroups() {
        SmokeTubes x = one(50, 7, 3, 0);
        x.group(0, 5, 2);
        x.group(0, 11, 3);
        write(x, 0, 0, 0, 0);
        Check.due("22 those that start by 3", worth(x, 3), 19);
        Check.due("22 those that start by 2", worth(x, 2), 8);
        Check.due("22 those that start by 1", worth(x, 1), 3);
        Check.due("22 those that start by 0", worth(x, 0), 3);
        write(x, 0, 0, 0, 1);
        Check.due("22 a begin is in it: room in place of 11", worth(x, 3), 8 + 50);
        write(x, 0, 0, 0, 256);
        Check.due("22 a being is no begin", worth(x, 3), 19);
        write(x, 0, 2, 0, 0);
        Check.due("22 a piece that there isn't", worth(x, 3), 19);
    }

    /** "ROOM (0 if it is SHUT) of each PIECE and MINUTE whose begin is in it, and whose being isn't", up to t. */
    private static void worthOfRooms() {
        SmokeTubes x = new SmokeTubes();
        x.piece(50, 0);
        x.piece(3, 0);
        write(x, 1, 0, 0);
        Check.due("22 in 0", worth(x, 2), 50);
        write(x, 0, 0, 1);
        Check.due("22 in t", worth(x, 2), 50);
        Check.due("22 behind t", worth(x, 1), 0);
        write(x, 3, 3, 3);
        Check.due("22 two pieces, three minutes", worth(x, 2), 159);
        write(x, 3, 3, 3 + 256 + 512);
        Check.due("22 their beings in t are in it", worth(x, 2), 106);
        SmokeTubes shut = Houses.stirred(0, 9);
        shut.eyes(8);
        write(shut, 1, 1, 1);
        Check.due("22 shut in 1 and 2", shut.worth(0, 0, 0, 0, 2, 0), 60);
        shut.eyes(9);
        Check.due("22 as much as eyes: not shut", shut.worth(0, 0, 0, 0, 2, 0), 180);
    }

    /** "widths of WAYS, each way round, .. and the begin at the other end, by t, isn't". */
    private static void worthOfWays() {
        SmokeTubes x = two(2, 7, 1, 20);
        write(x, 256, 257, 257, 257);
        Check.due("22 there in 2 and in 3", worth(x, 3), 14);
        Check.due("22 there in 2", worth(x, 2), 7);
        Check.due("22 there behind t", worth(x, 1), 0);
        write(x, 256, 257, 257, 257 + 2 + 512);
        Check.due("22 the begin in 3 is in it", worth(x, 3), 7);
        write(x, 0, 0, 0, 257);
        Check.due("22 they go off in t", worth(x, 3), 0);
        SmokeTubes both = bothWaysRound();
        write(both, 256 + 512, 3 + 256 + 512, 0);
        Check.due("22 open", worth(both, 2), NONE);
        write(both, 3 + 256 + 512, 3, 0);
        Check.due("22 each way round: 1 and 1; outs in 0; rooms in 1; nothing else", worth(both, 2), 2 + 2 + 4);
        both.walk(2);
        Check.due("22 by walk 2 nobody is there by 2", worth(both, 2), 2 + 4);
        write(both, 3 + 256 + 512, 3, 0, 0, 0);
        Check.due("22 by walk 2 they are there by 4; two start in 1, in rooms", worth(both, 4), 2 + 2 + 4);
        write(both, 3 + 256 + 512, 3, 0, 0, 1);
        Check.due("22 one begin there is in it: its room for a way", worth(both, 4), 2 + 1 + 4 + 2);
        write(both, 3 + 256 + 512, 3, 0, 0, 2);
        Check.due("22 the other begin there is in it", worth(both, 4), 2 + 1 + 4 + 2);
        write(both, 3 + 256 + 512, 3, 0, 0, 3);
        Check.due("22 both are", worth(both, 4), 2 + 4 + 4);
        both.walk(1);
        write(both, 1 + 256, 1, 0);
        Check.due("22 one way round", worth(both, 2), 2 + 2 + 1 + 1 + 2);
    }

    /** "widths of OUTS and DOORS for each MINUTE ahead of t in which the being of the PIECE is in it". */
    private static void worthOfOuts() {
        SmokeTubes x = new SmokeTubes();
        x.piece(50, 4);
        write(x, 257, 257, 257);
        Check.due("22 in 0 and 1, not in 2", worth(x, 2), 8);
        Check.due("22 in 0", worth(x, 1), 4);
        Check.due("22 by 0", worth(x, 0), 0);
        x.door(0, 9, 1);
        Check.due("22 a door that isn't made", worth(x, 2), 8);
        x.make(0, true);
        Check.due("22 a door that is made", worth(x, 2), 26);
        Check.due("22 a being in 0 by 0", worth(x, 0), 0);
    }

    /** "OPEN, and has no WORTH, if a being is in it whose PIECE's begin in the next MINUTE, by t, isn't". */
    private static void open() {
        SmokeTubes x = new SmokeTubes();
        for (int piece = 0; piece < 8; piece++) {
            x.piece(1, 0);
        }
        write(x, 0, 256, 0);
        Check.due("22 open in 1", worth(x, 2), NONE);
        Check.due("22 by 1 there is no next minute", worth(x, 1), 0);
        write(x, 0, 256, 2);
        Check.due("22 another piece's begin", worth(x, 2), NONE);
        write(x, 0, 256, 256);
        Check.due("22 a being is no begin", worth(x, 2), NONE);
        write(x, 0, 256, 1);
        Check.due("22 closed by the begin", worth(x, 2), 1);
        write(x, 0, 32768, 127);
        Check.due("22 piece 7", worth(x, 2), NONE);
        write(x, 0, 32768, 128);
        Check.due("22 piece 7", worth(x, 2), 1);
        SmokeTubes none = new SmokeTubes();
        none.piece(1, 0);
        write(none, 0, 512, 0);
        Check.due("22 a piece that there isn't is never open", worth(none, 2), 0);
    }

    /** "by their lowest sixteen bits", whatever sort the row is of. */
    private static void lowestBits() {
        SmokeTubes x = one(50, 4, 3, 0);
        write(x, 1L << 16, 1L << 63, -1L << 16);
        Check.due("22 nothing in the lowest sixteen", worth(x, 2), 3);
        write(x, (1L << 16) + 1, 0, 0);
        Check.due("22 the lowest bit", worth(x, 2), 50);
        write(x, -1, -1, -1);
        Check.due("22 all bits of 64", worth(x, 2), 8);
        for (int sort = 0; sort < 4; sort++) {
            x.row(1, sort, 3);
            for (int place = 0; place < 3; place++) {
                x.write(1, place, -1);
            }
            Check.due("22 all bits of sort " + sort, x.worth(0, 0, 0, NONE, 2, 1), 8);
        }
        x.row(1, 0, 3);
        x.write(1, 0, 257);
        Check.due("22 257 of 8 bits is 1", x.worth(0, 0, 0, NONE, 2, 1), 50);
        x.write(1, 0, 256);
        Check.due("22 256 of 8 bits is 0", x.worth(0, 0, 0, NONE, 2, 1), 3);
        x.row(1, 1, 3);
        x.write(1, 0, 65536 + 1);
        Check.due("22 65537 of 16 bits is 1", x.worth(0, 0, 0, NONE, 2, 1), 50);
    }

    /** "IndexOutOfBoundsException: it ends ahead of by", missing ahead of that, both behind all others. */
    private static void rowsForWorth() {
        SmokeTubes x = one(50, 4, 3, 0);
        Check.due("22 missing", () -> worth(x, 0), Check.STATE);
        x.row(0, 0, 0);
        Check.due("22 a row of none ends ahead of 0", () -> worth(x, 0), Check.PLACE);
        x.row(0, 0, 1);
        Check.due("22 one is enough for 0", worth(x, 0), 3);
        Check.due("22 but not for 1", () -> worth(x, 1), Check.PLACE);
        x.row(0, 0, 20);
        Check.due("22 20 are enough for 19", worth(x, 19), 3);
        Check.due("22 but not for 20", () -> worth(x, 20), Check.PLACE);
        x.row(0, 0, 21);
        Check.due("22 21 are enough for 20", worth(x, 20), 3);
        x.row(0, 0, 30);
        Check.due("22 more than enough", worth(x, 20), 3);
        x.row(1, 0, 0);
        Check.due("22 no such fire ahead of all", () -> x.worth(4, 4, 22, 0, 21, 2), Check.NO_SUCH);
        Check.due("22 no such row ahead of a plan", () -> x.worth(4, 4, 22, NONE, 21, 4), Check.NO_SUCH);
        Check.due("22 a plan ahead of missing", () -> x.worth(4, 0, 0, NONE, 0, 2), Check.NOT_SO);
        Check.due("22 k ahead of missing", () -> x.worth(0, 0, 22, NONE, 0, 2), Check.NOT_SO);
        Check.due("22 by ahead of missing", () -> x.worth(0, 0, 0, NONE, 21, 2), Check.NOT_SO);
        Check.due("22 by 21 ahead of too short", () -> x.worth(0, 0, 0, NONE, 21, 1), Check.NOT_SO);
        Check.due("22 by -1 ahead of too short", () -> x.worth(0, 0, 0, NONE, -1, 1), Check.NOT_SO);
        for (int by = 0; by <= 20; by++) {
            int asked = by;
            Check.due("22 missing, whatever by is", () -> x.worth(0, 0, 0, NONE, asked, 3), Check.STATE);
        }
    }

    /** "(OUT BY t is the least WORTH.)": in a small house, of all sides there are. */
    private static void leastWorth() {
        SmokeTubes x = one(4, 2, 5, 0);
        int least = Integer.MAX_VALUE;
        int in = -1;
        for (int a = 0; a < 4; a++) {
            for (int b = 0; b < 4; b++) {
                int first = (a & 1) + (a >> 1) * 256;
                int next = (b & 1) + (b >> 1) * 256;
                write(x, first, next);
                int worth = worth(x, 1);
                if (worth != NONE && worth < least) {
                    least = worth;
                    in = -1;
                }
                if (worth == least) {
                    in &= first << 16 | next;
                }
            }
        }
        Check.due("22 the least worth", least, out(x, 1));
        Check.due("21 what is in all of them, for 0", side(x, 1, 0), in >> 16);
        Check.due("21 what is in all of them, for 1", side(x, 1, 1), in & 0xffff);
    }

    public static void main(String[] args) {
        starts();
        widthOfAnOut();
        room();
        roomWhereTheyCome();
        longWays();
        widthOfAWay();
        eachWayRound();
        theMost();
        shut();
        shutWhileOnAWay();
        doors();
        numbersOfASide();
        sideByNought();
        sideAtTheEnd();
        sideWhereItIsShut();
        worthOfGroups();
        worthOfRooms();
        worthOfWays();
        worthOfOuts();
        open();
        lowestBits();
        rowsForWorth();
        leastWorth();
        Check.end("OutEdgesTest");
    }
}
