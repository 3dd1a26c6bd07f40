/** Houses that several tests begin with. */
final class Houses {
    private static final int NONE = SmokeTubes.NONE;

    private Houses() { }

    /** Some of all there is, two acts taken back, and all rows there, long enough for each side. */
    static SmokeTubes some() {
        SmokeTubes x = new SmokeTubes();
        x.piece(20, 0);
        x.piece(30, 5);
        x.piece(9, 0);
        x.way(0, 1, 2, 9, 1);
        x.way(2, 0, 1, 4, -2);
        x.fire(0, 0, 9, 900, 50, 5000);
        x.fire(2, 3, 21, 100, 300, 2000);
        x.fan(0, 4, 2500, 1);
        x.fan(1, 6, 900, 4);
        x.set(0, 0, 1, 1);
        x.set(1, 1, 2, -1);
        x.set(1, 0, 6, 1);
        x.group(0, 15, 1);
        x.group(2, 7, 0);
        x.door(0, 2, 7);
        x.door(2, 3, 4);
        x.make(1, true);
        x.drill(7, 3);
        x.reading(1, 0, false);
        x.gauges(5, 40, 2);
        x.eyes(600);
        x.walk(2);
        x.water(0, 4);
        x.undo();
        x.undo();
        rows(x);
        return x;
    }

    /** As many of each as there may be, two acts taken back. */
    static SmokeTubes full() {
        SmokeTubes x = new SmokeTubes();
        for (int i = 0; i < 8; i++) {
            x.piece(20 + i, i % 3 == 0 ? 3 : 0);
        }
        for (int i = 0; i < 12; i++) {
            x.way(i % 8, (i + 1 + i / 8) % 8, 1 + i % 2, 2 + i % 4, i % 5 - 2);
        }
        for (int i = 0; i < 4; i++) {
            x.fire(2 * i, i, 21, 500, 300, 20000);
        }
        for (int i = 0; i < 8; i++) {
            x.fan(i, 1 + i % 6, 5000, 1 << i);
        }
        for (int i = 0; i < 60; i++) {
            x.set(i % 4, i % 8, i % 21, i % 3 - 1);
        }
        for (int i = 0; i < 10; i++) {
            x.group(i % 8, 30 + i, i % 4);
        }
        for (int i = 0; i < 6; i++) {
            x.door(i, 4, 5 + i);
        }
        for (int i = 0; i < 10; i++) {
            x.drill(2 * i, i);
        }
        for (int i = 0; i < 40; i++) {
            x.reading(i % 8, 0, false);
        }
        x.gauges(255, 300, 1);
        x.eyes(4000);
        x.walk(2);
        x.make(3, true);
        x.undo();
        x.undo();
        rows(x);
        return x;
    }

    private static void rows(SmokeTubes x) {
        x.row(0, 0, 21);
        x.row(1, 1, 22);
        x.row(2, 2, 25);
        x.row(3, 3, 30);
        x.lay(0, 1, 4, NONE, 20, 1);
        x.lay(0, 1, 4, 0, 20, 3);
        x.write(2, 0, 77);
    }

    /** One piece and a fire there, all of whose smoke is mixed a minute later: the air comes from piece 1, strongly. */
    static SmokeTubes stirred(int out, int first) {
        SmokeTubes x = new SmokeTubes();
        x.piece(60, out);
        x.piece(60, 0);
        x.way(1, 0, 1, 40, 6);
        x.fire(0, 0, 1, first, 0, 100000);
        return x;
    }
}
