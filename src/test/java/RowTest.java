/** Promises 40 to 42: rows. */
public final class RowTest {
    private static final int NONE = SmokeTubes.NONE;

    private static void row() {
        SmokeTubes x = new SmokeTubes();
        Check.due("40 row 4", () -> x.row(4, 9, 99), Check.NO_SUCH);
        Check.due("40 row -1", () -> x.row(-1, 0, 0), Check.NO_SUCH);
        Check.due("40 sort -1", () -> x.row(0, -1, 0), Check.NOT_SO);
        Check.due("40 sort 4", () -> x.row(0, 4, 0), Check.NOT_SO);
        Check.due("40 many -1", () -> x.row(0, 0, -1), Check.NOT_SO);
        Check.due("40 many 31", () -> x.row(0, 0, 31), Check.NOT_SO);
        Check.due("40 it is missing still", () -> x.write(0, 0, 0), Check.STATE);
        x.row(0, 0, 0);
        Check.due("40 no place", () -> x.write(0, 0, 0), Check.PLACE);
        x.row(0, 3, 30);
        Check.due("41 the last place", x.write(0, 29, 5), 5);
        Check.due("41 no such place", () -> x.write(0, 30, 5), Check.PLACE);
        Check.due("40 another is missing", () -> x.write(3, 0, 0), Check.STATE);
        SmokeTubes zeros = new SmokeTubes();
        zeros.piece(10, 1);
        zeros.group(0, 4, 0);
        zeros.row(1, 2, 2);
        zeros.write(1, 0, 257);
        zeros.write(1, 1, 1);
        Check.due("22 as written", zeros.worth(0, 0, 0, NONE, 1, 1), 11);
        zeros.row(1, 2, 2);
        Check.due("40 so many 0s", zeros.worth(0, 0, 0, NONE, 1, 1), 4);
        zeros.row(1, 2, 1);
        Check.due("40 fewer now", () -> zeros.worth(0, 0, 0, NONE, 1, 1), Check.PLACE);
    }

    private static void write() {
        SmokeTubes x = new SmokeTubes();
        for (int sort = 0; sort < 4; sort++) {
            x.row(sort, sort, 3);
        }
        long v = 0x123456789abcdef0L;
        long[] cut = {(byte) 0xf0, (short) 0xdef0, 0x9abcdef0, v};
        for (int sort = 0; sort < 4; sort++) {
            Check.due("41 cut to sort " + sort, x.write(sort, 1, v), cut[sort]);
            Check.due("41 -1", x.write(sort, 0, -1), -1);
            Check.due("41 1", x.write(sort, 2, 1), 1);
        }
        Check.due("41 128 of 8 bits", x.write(0, 0, 128), -128);
        Check.due("41 127 of 8 bits", x.write(0, 0, 127), 127);
        Check.due("41 257 of 8 bits", x.write(0, 0, 257), 1);
        Check.due("41 32768 of 16 bits", x.write(1, 0, 32768), -32768);
        Check.due("41 the least of 64 bits", x.write(3, 0, Long.MIN_VALUE), Long.MIN_VALUE);
        Check.due("41 no such row", () -> x.write(4, 99, 0), Check.NO_SUCH);
        Check.due("41 no such row", () -> x.write(-1, 0, 0), Check.NO_SUCH);
        Check.due("41 no such place", () -> x.write(0, 3, 0), Check.PLACE);
        Check.due("41 no such place", () -> x.write(0, -1, 0), Check.PLACE);
        Check.due("41 missing goes first", () -> new SmokeTubes().write(0, -1, 0), Check.STATE);
    }

    private static SmokeTubes hall() {
        SmokeTubes x = new SmokeTubes();
        x.piece(10, 0);
        x.piece(5, 3);
        x.way(0, 1, 2, 4, 0);
        x.group(0, 10, 0);
        return x;
    }

    private static void lay() {
        SmokeTubes x = hall();
        x.row(0, 1, 6);
        for (int place = 0; place < 6; place++) {
            x.write(0, place, 257);
        }
        Check.due("42 how many", x.lay(0, 0, 0, NONE, 3, 0), 4);
        Check.due("42 the side has the least worth", x.worth(0, 0, 0, NONE, 3, 0), x.out(0, 0, 0, NONE, 3));
        Check.due("42 other places are as they were", x.worth(0, 0, 0, NONE, 5, 0), NONE);
        x.write(0, 4, 771);
        x.write(0, 5, 771);
        Check.due("42 by 5 with these", x.worth(0, 0, 0, NONE, 5, 0), 9);
        x.row(1, 0, 2);
        Check.due("42 cut to 8 bits", x.lay(0, 0, 0, NONE, 1, 1), 2);
        Check.due("42 the begins alone: room twice", x.worth(0, 0, 0, NONE, 1, 1), 20);
        for (int by = 0; by <= 20; by++) {
            x.row(2, 3, 21);
            Check.due("42 how many", x.lay(0, 0, 0, NONE, by, 2), by + 1);
            Check.due("42 it proves it", x.worth(0, 0, 0, NONE, by, 2), x.out(0, 0, 0, NONE, by));
        }
    }

    private static void wrongLay() {
        SmokeTubes x = hall();
        x.fire(0, 0, 1, 1, 1, 1);
        x.row(0, 0, 3);
        int[][] courses = {{-1, 0, 0, 0}, {4, 0, 0, 0}, {0, -1, 0, 0}, {0, 4, 0, 0}, {0, 0, -1, 0}, {0, 0, 22, 0},
            {0, 0, 0, -1}, {0, 0, 0, 21}};
        for (int[] c : courses) {
            Check.due("42 course, ahead of missing", () -> x.lay(c[0], c[1], c[2], 0, c[3], 1), Check.NOT_SO);
            Check.due("42 no such row goes first", () -> x.lay(c[0], c[1], c[2], 0, c[3], 4), Check.NO_SUCH);
            Check.due("42 no such fire goes first", () -> x.lay(c[0], c[1], c[2], 1, c[3], 0), Check.NO_SUCH);
        }
        Check.due("42 missing", () -> x.lay(0, 0, 0, 0, 20, 1), Check.STATE);
        Check.due("42 fewer places", () -> x.lay(0, 0, 0, 0, 3, 0), Check.PLACE);
        Check.due("42 nothing came then", x.worth(0, 0, 0, NONE, 2, 0), 10);
        Check.due("42 just as many", x.lay(0, 0, 0, 0, 2, 0), 3);
    }

    public static void main(String[] args) {
        row();
        write();
        lay();
        wrongLay();
        Check.end("RowTest");
    }
}
