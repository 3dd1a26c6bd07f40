/** Edges of section 6 of the document, and of promises 40 to 42: rows. */
public final class RowEdgesTest {
    private static final int NONE = SmokeTubes.NONE;

    /** Nine people who start in 0, room for 9, an out of 4: by 1 the side is 257 in 0 and in 1. */
    private static SmokeTubes hall() {
        SmokeTubes x = new SmokeTubes();
        x.piece(9, 4);
        x.group(0, 9, 0);
        return x;
    }

    private static int worth(SmokeTubes x, int by, int row) {
        return x.worth(0, 0, 0, NONE, by, row);
    }

    /** "ROWS 0 to 3 are MISSING at first, or so many numbers (0 to 30)". */
    private static void places() {
        for (int row = 0; row < 4; row++) {
            SmokeTubes x = new SmokeTubes();
            int asked = row;
            Check.due("41 missing at first", () -> x.write(asked, 0, 0), Check.STATE);
            for (int many : new int[] {0, 1, 2, 29, 30}) {
                x.row(row, 3, many);
                Check.due("41 place -1", () -> x.write(asked, -1, 0), Check.PLACE);
                Check.due("41 one too far of " + many, () -> x.write(asked, many, 0), Check.PLACE);
                Check.due("41 far too far", () -> x.write(asked, Integer.MAX_VALUE, 0), Check.PLACE);
                Check.due("41 far too far", () -> x.write(asked, Integer.MIN_VALUE, 0), Check.PLACE);
                if (many > 0) {
                    Check.due("41 the first place", x.write(row, 0, 7), 7);
                    Check.due("41 the last place", x.write(row, many - 1, 8), 8);
                }
            }
            for (int other = 0; other < 4; other++) {
                int missing = other;
                if (other != row) {
                    Check.due("41 another one is missing still", () -> x.write(missing, 0, 0), Check.STATE);
                }
            }
        }
    }

    /** "cut to its sort: as it is there": the greatest, the least, and one beyond each. */
    private static void cut() {
        SmokeTubes x = new SmokeTubes();
        for (int sort = 0; sort < 4; sort++) {
            x.row(sort, sort, 1);
            Check.due("41 0", x.write(sort, 0, 0), 0);
            Check.due("41 1", x.write(sort, 0, 1), 1);
            Check.due("41 -1", x.write(sort, 0, -1), -1);
            int bits = 8 << sort;
            long most = (1L << bits - 1) - 1;
            Check.due("41 the greatest of " + bits, x.write(sort, 0, most), most);
            Check.due("41 the least of " + bits, x.write(sort, 0, -most - 1), -most - 1);
            Check.due("41 one more than the greatest wraps around", x.write(sort, 0, most + 1), -most - 1);
            Check.due("41 one less than the least wraps around", x.write(sort, 0, -most - 2), most);
            if (sort < 3) {
                Check.due("41 as many as it has", x.write(sort, 0, 1L << bits), 0);
                Check.due("41 and one", x.write(sort, 0, (1L << bits) + 1), 1);
                Check.due("41 all ones", x.write(sort, 0, (1L << bits) - 1), -1);
            }
        }
        Check.due("41 the greatest of all in 8 bits", x.write(0, 0, Long.MAX_VALUE), -1);
        Check.due("41 the least of all in 32 bits", x.write(2, 0, Long.MIN_VALUE), 0);
    }

    /** "A ROW of so many 0s": a new one in place of the old, of another sort and length. */
    private static void again() {
        SmokeTubes x = hall();
        x.row(0, 3, 2);
        x.write(0, 0, 257);
        x.write(0, 1, 257);
        Check.due("22 as written", worth(x, 1, 0), 4);
        x.row(0, 3, 2);
        Check.due("40 0s", worth(x, 1, 0), 9);
        x.write(0, 1, 1);
        x.row(0, 0, 1);
        Check.due("40 one place now", () -> worth(x, 1, 0), Check.PLACE);
        Check.due("40 of 8 bits now", x.write(0, 0, 257), 1);
        x.row(0, 3, 30);
        Check.due("40 what was there in a longer one is 0 too", worth(x, 20, 0), 9);
        x.row(0, 3, 0);
        Check.due("40 a row of none isn't missing", () -> worth(x, 0, 0), Check.PLACE);
    }

    /** A refused call leaves the row as it was. */
    private static void refused() {
        SmokeTubes x = hall();
        x.row(0, 3, 2);
        x.write(0, 0, 257);
        x.write(0, 1, 257);
        Check.due("40 sort 4", () -> x.row(0, 4, 2), Check.NOT_SO);
        Check.due("40 sort -1", () -> x.row(0, -1, 2), Check.NOT_SO);
        Check.due("40 31", () -> x.row(0, 3, 31), Check.NOT_SO);
        Check.due("40 -1", () -> x.row(0, 3, -1), Check.NOT_SO);
        Check.due("40 no such row goes first", () -> x.row(4, 4, 31), Check.NO_SUCH);
        Check.due("41 no such place", () -> x.write(0, 2, 0), Check.PLACE);
        Check.due("41 no such place", () -> x.write(0, -1, 0), Check.PLACE);
        Check.due("42 it has fewer places", () -> x.lay(0, 0, 0, NONE, 2, 0), Check.PLACE);
        Check.due("42 no such minute", () -> x.lay(0, 0, 0, NONE, 21, 0), Check.NOT_SO);
        Check.due("22 all as written", worth(x, 1, 0), 4);
        Check.due("41 of 64 bits still", x.write(0, 0, 1L << 62), 1L << 62);
        Check.due("40 a row that was refused is missing still", () -> x.row(1, 4, 2), Check.NOT_SO);
        Check.due("41 missing", () -> x.write(1, 0, 0), Check.STATE);
    }

    /** Of several throws of write and lay that one that is told first. */
    private static void order() {
        SmokeTubes x = hall();
        x.row(1, 0, 0);
        Check.due("41 no such row", () -> x.write(4, -1, 0), Check.NO_SUCH);
        Check.due("41 no such row", () -> x.write(-1, -1, 0), Check.NO_SUCH);
        Check.due("41 missing ahead of no such place", () -> x.write(0, -1, 0), Check.STATE);
        Check.due("41 missing ahead of no such place", () -> x.write(0, 30, 0), Check.STATE);
        Check.due("41 no such place", () -> x.write(1, 0, 0), Check.PLACE);
        Check.due("42 no such fire goes first", () -> x.lay(4, 4, 22, 0, 21, 0), Check.NO_SUCH);
        Check.due("42 no such row ahead of a plan", () -> x.lay(4, 0, 0, NONE, 0, 4), Check.NO_SUCH);
        Check.due("42 no such row ahead of by", () -> x.lay(0, 0, 0, NONE, 21, -1), Check.NO_SUCH);
        Check.due("42 a plan ahead of missing", () -> x.lay(0, 4, 0, NONE, 0, 0), Check.NOT_SO);
        Check.due("42 k ahead of missing", () -> x.lay(0, 0, 22, NONE, 0, 0), Check.NOT_SO);
        Check.due("42 by ahead of missing", () -> x.lay(0, 0, 0, NONE, 21, 0), Check.NOT_SO);
        Check.due("42 by ahead of fewer places", () -> x.lay(0, 0, 0, NONE, 21, 1), Check.NOT_SO);
        Check.due("42 missing", () -> x.lay(0, 0, 0, NONE, 0, 0), Check.STATE);
        Check.due("42 fewer places", () -> x.lay(0, 0, 0, NONE, 0, 1), Check.PLACE);
    }

    /** "THE SIDE .. comes into a ROW, from its first place on ..: how many"; "it has fewer places (nothing comes then)". */
    private static void lay() {
        for (int by = 0; by <= 20; by++) {
            SmokeTubes x = hall();
            int asked = by;
            x.row(0, 1, by + 1);
            Check.due("42 just as many places", x.lay(0, 0, 0, NONE, by, 0), by + 1);
            Check.due("42 the side", worth(x, by, 0), x.out(0, 0, 0, NONE, by));
            x.row(1, 1, by);
            Check.due("42 one place fewer", () -> x.lay(0, 0, 0, NONE, asked, 1), Check.PLACE);
            x.row(2, 1, 30);
            Check.due("42 more places", x.lay(0, 0, 0, NONE, by, 2), by + 1);
        }
    }

    private static void otherPlacesStay() {
        SmokeTubes x = hall();
        x.row(0, 2, 3);
        x.write(0, 2, 257);
        Check.due("42 two come", x.lay(0, 0, 0, NONE, 1, 0), 2);
        Check.due("42 257, 257 and what was there", worth(x, 2, 0), 8);
        x.write(0, 2, 0);
        Check.due("42 open without it", worth(x, 2, 0), NONE);
        SmokeTubes few = hall();
        few.row(0, 2, 1);
        few.write(0, 0, 1);
        Check.due("42 fewer places", () -> few.lay(0, 0, 0, NONE, 1, 0), Check.PLACE);
        Check.due("42 nothing came", worth(few, 0, 0), 9);
        few.write(0, 0, 0);
        Check.due("42 by 0", few.lay(0, 0, 0, NONE, 0, 0), 1);
        Check.due("42 the side by 0", worth(few, 0, 0), 0);
    }

    /** With a fire that shuts the piece in 1, and without it, one behind the other. */
    private static void layByFire() {
        SmokeTubes x = Houses.stirred(40, 9);
        x.eyes(0);
        x.group(0, 5, 1);
        x.row(0, 1, 4);
        for (int round = 0; round < 2; round++) {
            x.lay(0, 0, 0, 0, 3, 0);
            Check.due("42 shut in 1: nobody is out, and the side proves it", x.worth(0, 0, 0, 0, 3, 0), 0);
            Check.due("42 if none burns it is worth the room", worth(x, 3, 0), 60);
            x.lay(0, 0, 0, NONE, 3, 0);
            Check.due("42 none burns: all five, nothing in it", worth(x, 3, 0), 5);
            Check.due("42 nothing in it, by the fire", x.worth(0, 0, 0, 0, 3, 0), 5);
        }
    }

    /** "each number cut to its sort": of 8 bits the begins alone; with piece 7's begin all that is above it too. */
    private static void cutSides() {
        SmokeTubes x = hall();
        x.row(0, 0, 2);
        x.lay(0, 0, 0, NONE, 1, 0);
        Check.due("42 begins alone: room twice", worth(x, 1, 0), 18);
        SmokeTubes eight = new SmokeTubes();
        for (int piece = 0; piece < 8; piece++) {
            eight.piece(2, 0);
        }
        eight.group(7, 1, 0);
        Check.due("21 piece 7", eight.side(0, 0, 0, NONE, 0, 0), 128 + 32768);
        for (int sort = 0; sort < 4; sort++) {
            eight.row(sort, sort, 1);
            eight.lay(0, 0, 0, NONE, 0, sort);
            Check.due("42 piece 7 in sort " + sort, worth(eight, 0, sort), 0);
        }
        eight.undo();
        eight.group(6, 1, 0);
        eight.row(0, 0, 1);
        eight.lay(0, 0, 0, NONE, 0, 0);
        Check.due("42 piece 6 in 8 bits: its room", worth(eight, 0, 0), 2);
    }

    /** Rows aren't taken back, and are there behind all that is. */
    private static void notTakenBack() {
        SmokeTubes x = hall();
        x.row(0, 3, 2);
        x.write(0, 0, 257);
        x.undo();
        x.undo();
        Check.due("38 nothing is left", x.undo(), false);
        Check.due("40 the row is there", x.write(0, 1, 257), 257);
        x.redo();
        x.redo();
        Check.due("41 as written", worth(x, 1, 0), 4);
    }

    public static void main(String[] args) {
        places();
        cut();
        again();
        refused();
        order();
        lay();
        otherPlacesStay();
        layByFire();
        cutSides();
        notTakenBack();
        Check.end("RowEdgesTest");
    }
}
