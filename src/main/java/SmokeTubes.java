import java.util.Arrays;
import java.util.NoSuchElementException;

/**
 * A house for fires in tunnels: pieces joined by ways, smoke minute by minute, who can be out by when,
 * doors, turns of plans, crews, drills, one alone, readings, and acts that are taken back and done again.
 * The face only looks at what it is given and hands on to the classes inside.
 */
public final class SmokeTubes {
    public static final int NONE = -1;

    private static final int LAST_MINUTE = 20;
    private static final int MINUTES = LAST_MINUTE + 1;
    private static final int NEVER = MINUTES;
    private static final int PLANS = 4;
    private static final int MOST_PIECES = 8;
    private static final int MOST_WAYS = 12;
    private static final int MOST_FIRES = 4;
    private static final int MOST_FANS = 8;
    private static final int MOST_SETS = 60;
    private static final int MOST_GROUPS = 10;
    private static final int MOST_DOORS = 6;
    private static final int MOST_DRILLS = 10;
    private static final int MOST_READINGS = 40;
    private static final int MOST_ACTS = 100;
    private static final int MOST_ROWS = 4;
    private static final int MOST_PLACES = 30;
    private static final int MOST_WALK = 3;
    private static final int MILLION = 1000000;
    private static final int MOST_SMOKE = 100000;
    private static final int NONE_BURNS = 1 << MOST_FIRES;
    private static final int MOST_AIR = 12;
    private static final int HOLDS_BACK = 4;
    private static final int STIRS = 6;

    private final Acts acts;
    private final House house;
    private final Smoke smoke;
    private final Escape escape;
    private final Turns turns;
    private final Watch watch;
    private final Crew crew;
    private final Person person;
    private final Rows rows;

    public SmokeTubes() {
        acts = new Acts();
        house = new House(acts);
        smoke = new Smoke(house, acts);
        escape = new Escape(house, smoke);
        watch = new Watch(house, smoke);
        turns = new Turns(house, acts, smoke, escape, watch);
        crew = new Crew(house, smoke);
        person = new Person(house, smoke);
        rows = new Rows();
    }

    // ---- what there is

    public int piece(int room, int out) throws IllegalArgumentException {
        needWithin(room, 1, 200);
        needWithin(out, 0, 40);
        return house.add(house.pieces, room, out, NEVER, 0, 0, 0);
    }

    public int way(int a, int b, int minutes, int width, int draught)
            throws NoSuchElementException, IllegalArgumentException {
        needRow(house.pieces, a);
        needRow(house.pieces, b);
        if (a == b) {
            throw new IllegalArgumentException("a way joins two pieces");
        }
        needWithin(minutes, 1, 4);
        needWithin(width, 1, 40);
        needWithin(draught, -8, 8);
        return house.add(house.ways, a, b, minutes, width, draught, 0);
    }

    public int water(int piece, int minute) throws NoSuchElementException, IllegalArgumentException {
        needRow(house.pieces, piece);
        needWithin(minute, 0, NEVER);
        return house.change(house.pieces, piece, House.PIECE_WATER, minute);
    }

    public int fire(int piece, int from, int to, int first, int grows, int top)
            throws NoSuchElementException, IllegalArgumentException {
        needRow(house.pieces, piece);
        needMinute(from);
        needWithin(to, from + 1, MINUTES);
        needWithin(first, 0, MOST_SMOKE);
        needWithin(grows, 0, MOST_SMOKE);
        needWithin(top, 0, MOST_SMOKE);
        return house.add(house.fires, piece, from, to, first, grows, top);
    }

    public int fan(int way, int push, int bears, int cable) throws NoSuchElementException, IllegalArgumentException {
        needRow(house.ways, way);
        needWithin(push, 1, 6);
        needWithin(bears, 1, MILLION);
        needPieceSet(cable);
        return house.add(house.fans, way, push, bears, cable, 0, 0);
    }

    public int set(int plan, int fan, int minute, int is) throws NoSuchElementException, IllegalArgumentException {
        needRow(house.fans, fan);
        needPlan(plan);
        needMinute(minute);
        needWithin(is, -1, 1);
        return house.add(house.sets, plan, fan, minute, is, 0, 0);
    }

    public int eyes(int most) throws IllegalArgumentException {
        needWithin(most, 0, MILLION);
        return house.change(house.dials, 0, House.DIAL_EYES, most);
    }

    public int group(int piece, int people, int start) throws NoSuchElementException, IllegalArgumentException {
        needRow(house.pieces, piece);
        needWithin(people, 1, 60);
        needMinute(start);
        return house.add(house.groups, piece, people, start, 0, 0, 0);
    }

    public int walk(int times) throws IllegalArgumentException {
        needWithin(times, 1, MOST_WALK);
        return house.change(house.dials, 0, House.DIAL_WALK, times);
    }

    public int door(int piece, int width, int cost) throws NoSuchElementException, IllegalArgumentException {
        needRow(house.pieces, piece);
        needWithin(width, 1, 40);
        needWithin(cost, 1, 1000);
        return house.add(house.doors, piece, width, cost, 0, 0, 0);
    }

    public boolean make(int door, boolean is) throws NoSuchElementException {
        needRow(house.doors, door);
        return house.change(house.doors, door, House.DOOR_MADE, is ? 1 : 0) == 1;
    }

    public void gauges(int pieces, int mark, int lag) throws IllegalArgumentException {
        needPieceSet(pieces);
        needWithin(mark, 1, MILLION);
        needWithin(lag, 0, 5);
        house.changeGauges(pieces, mark, lag);
    }

    // ---- air and smoke

    public int air(int first, int other, int k, int fire, int way, int minute)
            throws NoSuchElementException, IllegalArgumentException {
        needFireOrNone(fire);
        needRow(house.ways, way);
        needCourse(first, other, k);
        needMinute(minute);
        smoke.follow(first, other, k, fire);
        return smoke.airOf(way, minute);
    }

    public long smoke(int first, int other, int k, int fire, int piece, int minute, boolean above)
            throws NoSuchElementException, IllegalArgumentException {
        needFireOrNone(fire);
        needRow(house.pieces, piece);
        needCourse(first, other, k);
        needMinute(minute);
        smoke.follow(first, other, k, fire);
        return above ? smoke.aboveIn(piece, minute) : smoke.mixedIn(piece, minute);
    }

    public long given(int first, int other, int k, int fire, int minute, int what)
            throws NoSuchElementException, IllegalArgumentException {
        needFireOrNone(fire);
        needCourse(first, other, k);
        needMinute(minute);
        needWithin(what, 0, 3);
        smoke.follow(first, other, k, fire);
        return smoke.total(minute, what);
    }

    public int lost(int first, int other, int k, int fire, int fan)
            throws NoSuchElementException, IllegalArgumentException {
        needFireOrNone(fire);
        needRow(house.fans, fan);
        needCourse(first, other, k);
        smoke.follow(first, other, k, fire);
        return smoke.lostFrom(fan);
    }

    public boolean shut(int first, int other, int k, int fire, int piece, int minute)
            throws NoSuchElementException, IllegalArgumentException {
        needFireOrNone(fire);
        needRow(house.pieces, piece);
        needCourse(first, other, k);
        needMinute(minute);
        smoke.follow(first, other, k, fire);
        return smoke.isShut(piece, minute);
    }

    // ---- who can be out

    public int out(int first, int other, int k, int fire, int by)
            throws NoSuchElementException, IllegalArgumentException {
        needFireOrNone(fire);
        needCourse(first, other, k);
        needMinute(by);
        return turns.outBy(first, other, k, fire, by);
    }

    public int all(int first, int other, int k, int fire) throws NoSuchElementException, IllegalArgumentException {
        needFireOrNone(fire);
        needCourse(first, other, k);
        smoke.follow(first, other, k, fire);
        return escape.firstForAll();
    }

    public int side(int first, int other, int k, int fire, int by, int minute)
            throws NoSuchElementException, IllegalArgumentException {
        needFireOrNone(fire);
        needCourse(first, other, k);
        needMinute(by);
        needWithin(minute, 0, by);
        smoke.follow(first, other, k, fire);
        escape.most(by, house.walkTimes(), house.madeDoors());
        return escape.sideAt(minute);
    }

    public int worth(int first, int other, int k, int fire, int by, int row)
            throws NoSuchElementException, IllegalArgumentException, IllegalStateException, IndexOutOfBoundsException {
        needFireOrNone(fire);
        needRowNumber(row);
        needCourse(first, other, k);
        needMinute(by);
        needPlaces(row, by + 1);
        smoke.follow(first, other, k, fire);
        return escape.worthOf(rows, row, by);
    }

    // ---- doors, turns

    public int fewest(int plan, int by, int fires) throws IllegalArgumentException {
        needPlan(plan);
        needMinute(by);
        int known = (1 << house.fires.size()) - 1 | NONE_BURNS;
        if ((fires & ~known) != 0) {
            throw new IllegalArgumentException("no such fires");
        }
        return turns.fewestDoors(plan, by, fires);
    }

    public boolean alike(int plan, int minute, int a, int b) throws NoSuchElementException, IllegalArgumentException {
        needFireOrNone(a);
        needFireOrNone(b);
        needPlan(plan);
        needMinute(minute);
        watch.look(plan);
        return watch.sameTold(a, b, minute);
    }

    public int regret(int first, int other, int k, int fire, int by)
            throws NoSuchElementException, IllegalArgumentException {
        needFireOrNone(fire);
        needCourse(first, other, k);
        needMinute(by);
        return turns.regretOf(first, other, k, fire, by);
    }

    public int turn(int plan, int k, int by) throws IllegalStateException, IllegalArgumentException {
        needSomeFire();
        needPlan(plan);
        needWithin(k, 0, MINUTES);
        needMinute(by);
        watch.look(plan);
        turns.weigh(plan, k, by);
        return turns.regretOfTurn(k);
    }

    public int turnTo(int plan, int k, int by, int fire) throws NoSuchElementException, IllegalArgumentException {
        needRow(house.fires, fire);
        needPlan(plan);
        needWithin(k, 0, MINUTES);
        needMinute(by);
        watch.look(plan);
        turns.weigh(plan, k, by);
        return turns.planFor(fire, k);
    }

    public int best(int k, int by) throws IllegalStateException, IllegalArgumentException {
        needSomeFire();
        needWithin(k, 0, MINUTES);
        needMinute(by);
        int best = 0;
        int least = MILLION;
        for (int plan = 0; plan < PLANS; plan++) {
            watch.look(plan);
            turns.weigh(plan, k, by);
            int regret = turns.regretOfTurn(k);
            if (regret < least) {
                best = plan;
                least = regret;
            }
        }
        return best;
    }

    // ---- crews, drills

    public int reach(int first, int other, int k, int fire, int piece, int air)
            throws NoSuchElementException, IllegalArgumentException {
        needFireOrNone(fire);
        needRow(house.pieces, piece);
        needCourse(first, other, k);
        needWithin(air, 0, 200);
        smoke.follow(first, other, k, fire);
        return crew.firstReach(piece, air);
    }

    public int drill(int by, int people) throws IllegalArgumentException {
        needMinute(by);
        needWithin(people, 0, 600);
        return house.add(house.drills, by, people, 0, 0, 0, 0);
    }

    public int fit() {
        smoke.follow(0, 0, 0, NONE);
        int fitting = 0;
        for (int times = 1; times <= MOST_WALK; times++) {
            if (escape.fitsDrills(times)) {
                fitting |= 1 << times - 1;
            }
        }
        return fitting;
    }

    // ---- one alone, readings, acts

    public long dose(int first, int other, int k, int fire, int piece, int start)
            throws NoSuchElementException, IllegalArgumentException {
        needPerson(fire, piece);
        needCourse(first, other, k);
        needMinute(start);
        smoke.follow(first, other, k, fire);
        person.weigh();
        return person.doseFrom(piece, start);
    }

    public int outAt(int first, int other, int k, int fire, int piece, int start)
            throws NoSuchElementException, IllegalArgumentException {
        needPerson(fire, piece);
        needCourse(first, other, k);
        needMinute(start);
        smoke.follow(first, other, k, fire);
        person.weigh();
        return person.outFrom(piece, start);
    }

    public int whereAt(int first, int other, int k, int fire, int piece, int start, int minute)
            throws NoSuchElementException, IllegalArgumentException {
        needPerson(fire, piece);
        needCourse(first, other, k);
        needMinute(start);
        needMinute(minute);
        smoke.follow(first, other, k, fire);
        person.weigh();
        return person.whereFrom(piece, start, minute);
    }

    public int reading(int piece, int minute, boolean is) throws NoSuchElementException, IllegalArgumentException {
        needRow(house.pieces, piece);
        needMinute(minute);
        return house.add(house.readings, piece, minute, is ? 1 : 0, 0, 0, 0);
    }

    public int fits(int plan) throws IllegalArgumentException {
        needPlan(plan);
        watch.look(plan);
        return watch.fitting();
    }

    public int next(int plan) throws IllegalArgumentException {
        needPlan(plan);
        watch.look(plan);
        return watch.asked();
    }

    public boolean undo() {
        return acts.takeBack();
    }

    public boolean redo() {
        return acts.doAgain();
    }

    // ---- rows

    public void row(int row, int sort, int many) throws NoSuchElementException, IllegalArgumentException {
        needRowNumber(row);
        needWithin(sort, 0, Rows.SORTS - 1);
        needWithin(many, 0, MOST_PLACES);
        rows.start(row, sort, many);
    }

    public long write(int row, int place, long v)
            throws NoSuchElementException, IllegalStateException, IndexOutOfBoundsException {
        needRowNumber(row);
        needPlaces(row, 0);
        if (place < 0 || place >= rows.lengthOf(row)) {
            throw new IndexOutOfBoundsException("the row has no such place");
        }
        return rows.put(row, place, v);
    }

    public int lay(int first, int other, int k, int fire, int by, int row)
            throws NoSuchElementException, IllegalArgumentException, IllegalStateException, IndexOutOfBoundsException {
        needFireOrNone(fire);
        needRowNumber(row);
        needCourse(first, other, k);
        needMinute(by);
        needPlaces(row, by + 1);
        smoke.follow(first, other, k, fire);
        escape.most(by, house.walkTimes(), house.madeDoors());
        for (int minute = 0; minute <= by; minute++) {
            rows.put(row, minute, escape.sideAt(minute));
        }
        return by + 1;
    }

    public int count(int what) {
        switch (what) {
            case 0: return house.pieces.size();
            case 1: return house.ways.size();
            case 2: return house.fires.size();
            case 3: return house.fans.size();
            case 4: return house.sets.size();
            case 5: return house.groups.size();
            case 6: return house.allPeople();
            case 7: return house.doors.size();
            case 8: return Integer.bitCount(house.madeDoors());
            case 9: return house.drills.size();
            case 10: return house.readings.size();
            case 11: return acts.done();
            case 12: return acts.undone();
            default: return NONE;
        }
    }

    // ---- what a call needs: each throws what the document says

    private static void needWithin(int value, int least, int most) {
        if (value < least || value > most) {
            throw new IllegalArgumentException("it can't be so");
        }
    }

    private static void needMinute(int minute) {
        needWithin(minute, 0, LAST_MINUTE);
    }

    private static void needPlan(int plan) {
        needWithin(plan, 0, PLANS - 1);
    }

    private static void needCourse(int first, int other, int k) {
        needPlan(first);
        needPlan(other);
        needWithin(k, 0, MINUTES);
    }

    private static void needRow(Table table, int number) {
        if (!table.has(number)) {
            throw new NoSuchElementException("there is no such one");
        }
    }

    private static void needRowNumber(int row) {
        if (row < 0 || row >= MOST_ROWS) {
            throw new NoSuchElementException("no such row");
        }
    }

    private void needFireOrNone(int fire) {
        if (fire != NONE) {
            needRow(house.fires, fire);
        }
    }

    private void needPerson(int fire, int piece) {
        needFireOrNone(fire);
        needRow(house.pieces, piece);
    }

    private void needPieceSet(int pieces) {
        needWithin(pieces, 0, (1 << house.pieces.size()) - 1);
    }

    private void needSomeFire() {
        if (house.fires.size() == 0) {
            throw new IllegalStateException("there are no fires");
        }
    }

    private void needPlaces(int row, int many) {
        if (rows.isMissing(row)) {
            throw new IllegalStateException("the row is missing");
        }
        if (rows.lengthOf(row) < many) {
            throw new IndexOutOfBoundsException("the row ends too early");
        }
    }

    /** Where what is told of a piece and a minute stands in a row of numbers. */
    private static int spot(int piece, int minute) {
        return minute * MOST_PIECES + piece;
    }

    /**
     * Numbered rows of a few numbers each. A row beyond the size keeps what it holds, so that an act
     * which is done again finds it there.
     */
    private static final class Table {
        private static final int WIDTH = 6;
        private final int limit;
        private final int[] cells;
        private int size;

        Table(int limit) {
            this.limit = Math.max(limit, 0);
            this.cells = new int[this.limit * WIDTH];
        }

        int size() {
            return size;
        }

        boolean isFull() {
            return size >= limit;
        }

        boolean has(int row) {
            return row >= 0 && row < size;
        }

        int at(int row, int column) {
            if (row < 0 || row >= limit || column < 0 || column >= WIDTH) {
                return 0;
            }
            return cells[row * WIDTH + column];
        }

        void put(int row, int column, int value) {
            if (row >= 0 && row < limit && column >= 0 && column < WIDTH) {
                cells[row * WIDTH + column] = value;
            }
        }

        /** Writes the row that the next grow() lets in. */
        void draft(int a, int b, int c, int d, int e, int f) {
            put(size, 0, a);
            put(size, 1, b);
            put(size, 2, c);
            put(size, 3, d);
            put(size, 4, e);
            put(size, 5, f);
        }

        void grow() {
            if (size < limit) {
                size++;
            }
        }

        void shrink() {
            if (size > 0) {
                size--;
            }
        }
    }

    /** The latest acts, in a ring: each added a row to a table or changed one, whose other numbers it keeps. */
    private static final class Acts {
        private final Table[] tables = new Table[MOST_ACTS];
        private final int[] changed = new int[MOST_ACTS];
        private final int[] kept = new int[MOST_ACTS * Table.WIDTH];
        private int oldest;
        private int done;
        private int undone;
        private int version;

        int done() {
            return done;
        }

        int undone() {
            return undone;
        }

        /** Another number after each act, taken back or not: what was worked out earlier is stale then. */
        int version() {
            return version;
        }

        void adding(Table table) {
            newest(table, NONE);
            table.grow();
        }

        /** Told ahead of the change, so that the row as it was is kept. */
        void changing(Table table, int row) {
            int slot = newest(table, row);
            for (int column = 0; column < Table.WIDTH; column++) {
                kept[slot * Table.WIDTH + column] = table.at(row, column);
            }
        }

        boolean takeBack() {
            if (done == 0) {
                return false;
            }
            done--;
            undone++;
            version++;
            turnOver(slotOf(done), false);
            return true;
        }

        boolean doAgain() {
            if (undone == 0) {
                return false;
            }
            turnOver(slotOf(done), true);
            done++;
            undone--;
            version++;
            return true;
        }

        private int newest(Table table, int row) {
            undone = 0;
            if (done == MOST_ACTS) {
                oldest = (oldest + 1) % MOST_ACTS;
                done--;
            }
            int slot = slotOf(done);
            done++;
            version++;
            tables[slot] = table;
            changed[slot] = row;
            return slot;
        }

        private int slotOf(int act) {
            return (oldest + act) % MOST_ACTS;
        }

        /** A row that was added goes or comes again; one that was changed is swapped with what is kept of it. */
        private void turnOver(int slot, boolean again) {
            Table table = tables[slot];
            if (table == null) {
                return;
            }
            if (changed[slot] != NONE) {
                swap(slot, table);
            } else if (again) {
                table.grow();
            } else {
                table.shrink();
            }
        }

        private void swap(int slot, Table table) {
            for (int column = 0; column < Table.WIDTH; column++) {
                int at = slot * Table.WIDTH + column;
                int now = table.at(changed[slot], column);
                table.put(changed[slot], column, kept[at]);
                kept[at] = now;
            }
        }
    }

    /** All that is told, and plain questions about it. */
    private static final class House {
        static final int PIECE_ROOM = 0;
        static final int PIECE_OUT = 1;
        static final int PIECE_WATER = 2;
        static final int WAY_A = 0;
        static final int WAY_B = 1;
        static final int WAY_LONG = 2;
        static final int WAY_WIDE = 3;
        static final int WAY_DRAUGHT = 4;
        static final int FIRE_PIECE = 0;
        static final int FIRE_BEGIN = 1;
        static final int FIRE_END = 2;
        static final int FIRE_FIRST = 3;
        static final int FIRE_GROWS = 4;
        static final int FIRE_TOP = 5;
        static final int FAN_WAY = 0;
        static final int FAN_PUSH = 1;
        static final int FAN_BEARS = 2;
        static final int FAN_CABLE = 3;
        static final int SET_PLAN = 0;
        static final int SET_FAN = 1;
        static final int SET_MINUTE = 2;
        static final int SET_IS = 3;
        static final int GROUP_PIECE = 0;
        static final int GROUP_PEOPLE = 1;
        static final int GROUP_START = 2;
        static final int DOOR_PIECE = 0;
        static final int DOOR_WIDE = 1;
        static final int DOOR_COST = 2;
        static final int DOOR_MADE = 3;
        static final int DRILL_BY = 0;
        static final int DRILL_PEOPLE = 1;
        static final int READING_PIECE = 0;
        static final int READING_MINUTE = 1;
        static final int READING_IS = 2;
        static final int DIAL_EYES = 0;
        static final int DIAL_WALK = 1;
        static final int DIAL_GAUGES = 2;
        static final int DIAL_MARK = 3;
        static final int DIAL_LAG = 4;

        final Table pieces = new Table(MOST_PIECES);
        final Table ways = new Table(MOST_WAYS);
        final Table fires = new Table(MOST_FIRES);
        final Table fans = new Table(MOST_FANS);
        final Table sets = new Table(MOST_SETS);
        final Table groups = new Table(MOST_GROUPS);
        final Table doors = new Table(MOST_DOORS);
        final Table drills = new Table(MOST_DRILLS);
        final Table readings = new Table(MOST_READINGS);
        final Table dials = new Table(1);
        private final Acts acts;

        House(Acts acts) {
            this.acts = acts;
            dials.draft(1000, 1, 0, 1, 1, 0);
            dials.grow();
        }

        /** The number of the new row; NONE, and no act, if there are too many. */
        int add(Table table, int a, int b, int c, int d, int e, int f) {
            if (table.isFull()) {
                return NONE;
            }
            table.draft(a, b, c, d, e, f);
            acts.adding(table);
            return table.size() - 1;
        }

        /** What it was. */
        int change(Table table, int row, int column, int value) {
            int was = table.at(row, column);
            acts.changing(table, row);
            table.put(row, column, value);
            return was;
        }

        void changeGauges(int set, int mark, int lag) {
            acts.changing(dials, 0);
            dials.put(0, DIAL_GAUGES, set);
            dials.put(0, DIAL_MARK, mark);
            dials.put(0, DIAL_LAG, lag);
        }

        int walkTimes() {
            return dials.at(0, DIAL_WALK);
        }

        int gives(int fire, int minute) {
            if (!fires.has(fire) || minute < fires.at(fire, FIRE_BEGIN) || minute >= fires.at(fire, FIRE_END)) {
                return 0;
            }
            int grown = fires.at(fire, FIRE_GROWS) * (minute - fires.at(fire, FIRE_BEGIN));
            return Math.min(fires.at(fire, FIRE_TOP), fires.at(fire, FIRE_FIRST) + grown);
        }

        /** The other end of a way of a piece; NONE if it isn't one of its ways. */
        int otherEnd(int way, int piece) {
            int a = ways.at(way, WAY_A);
            int b = ways.at(way, WAY_B);
            int end = a == piece ? b : b == piece ? a : NONE;
            return pieces.has(end) ? end : NONE;
        }

        int allPeople() {
            int people = 0;
            for (int group = 0; group < groups.size(); group++) {
                people += groups.at(group, GROUP_PEOPLE);
            }
            return people;
        }

        int madeDoors() {
            int made = 0;
            for (int door = 0; door < doors.size(); door++) {
                made |= doors.at(door, DOOR_MADE) << door;
            }
            return made;
        }

        /** How many can go out of a piece in a minute, by its out and these doors. */
        int exitWidth(int piece, int doorSet) {
            int wide = pieces.at(piece, PIECE_OUT);
            for (int door = 0; door < doors.size(); door++) {
                if ((doorSet >> door & 1) == 1 && doors.at(door, DOOR_PIECE) == piece) {
                    wide += doors.at(door, DOOR_WIDE);
                }
            }
            return wide;
        }

        int doorCost(int doorSet) {
            int cost = 0;
            for (int door = 0; door < doors.size(); door++) {
                if ((doorSet >> door & 1) == 1) {
                    cost += doors.at(door, DOOR_COST);
                }
            }
            return cost;
        }
    }

    /** Air and smoke of the course and the fire that were followed last. */
    private static final class Smoke {
        private static final int GAVE = 0;
        private static final int GONE = 1;
        private static final int WASHED = 2;
        private static final int TOTALS = 3;
        private final House house;
        private final Acts acts;
        private final int[] above = new int[MINUTES * MOST_PIECES];
        private final int[] mixed = new int[MINUTES * MOST_PIECES];
        private final int[] airs = new int[MINUTES * MOST_WAYS];
        private final int[] totals = new int[MINUTES * TOTALS];
        private final int[] lost = new int[MOST_FANS];
        private final int[] turned = new int[MINUTES * MOST_FANS];
        private final int[] turnedFrom = new int[MINUTES * MOST_FANS];
        private final int[] shares = new int[MOST_PIECES];
        private final int[] leftAbove = new int[MOST_PIECES];
        private final int[] leftMixed = new int[MOST_PIECES];
        private int stirred;
        private int knownFirst;
        private int knownOther;
        private int knownK;
        private int knownFire;
        private int knownVersion = NONE;

        Smoke(House house, Acts acts) {
            this.house = house;
            this.acts = acts;
        }

        /** Many calls ask about one course, so one that is known already isn't followed again. */
        void follow(int first, int other, int k, int fire) {
            if (knownVersion == acts.version() && knownFirst == first && knownOther == other && knownK == k
                    && knownFire == fire) {
                return;
            }
            knownVersion = acts.version();
            knownFirst = first;
            knownOther = other;
            knownK = k;
            knownFire = fire;
            clear();
            turnFans(first, other, k);
            for (int minute = 0; minute < MINUTES; minute++) {
                loseFans(minute);
                driveAir(minute);
                if (minute < LAST_MINUTE) {
                    step(minute, house.fires.at(fire, House.FIRE_PIECE), house.gives(fire, minute));
                }
            }
        }

        int airOf(int way, int minute) {
            boolean known = way >= 0 && way < MOST_WAYS && minute >= 0 && minute < MINUTES;
            return known ? airs[minute * MOST_WAYS + way] : 0;
        }

        int aboveIn(int piece, int minute) {
            boolean known = piece >= 0 && piece < MOST_PIECES && minute >= 0 && minute < MINUTES;
            return known ? above[minute * MOST_PIECES + piece] : 0;
        }

        int mixedIn(int piece, int minute) {
            boolean known = piece >= 0 && piece < MOST_PIECES && minute >= 0 && minute < MINUTES;
            return known ? mixed[minute * MOST_PIECES + piece] : 0;
        }

        boolean isShut(int piece, int minute) {
            return mixedIn(piece, minute) > house.dials.at(0, House.DIAL_EYES);
        }

        boolean isMarked(int piece, int minute) {
            return aboveIn(piece, minute) + mixedIn(piece, minute) >= house.dials.at(0, House.DIAL_MARK);
        }

        int lostFrom(int fan) {
            return fan >= 0 && fan < MOST_FANS ? lost[fan] : NONE;
        }

        /** What 0 to 2: what the fire gave, what is gone, washed away; else what is in all pieces. */
        int total(int minute, int what) {
            if (minute < 0 || minute >= MINUTES) {
                return 0;
            }
            if (what >= 0 && what < TOTALS) {
                return totals[minute * TOTALS + what];
            }
            int inAll = 0;
            for (int piece = 0; piece < house.pieces.size(); piece++) {
                inAll += aboveIn(piece, minute) + mixedIn(piece, minute);
            }
            return inAll;
        }

        private void clear() {
            Arrays.fill(above, 0);
            Arrays.fill(mixed, 0);
            Arrays.fill(totals, 0);
            Arrays.fill(lost, NONE);
        }

        /** Of all that is told, in the order in which it was: what counts for each fan in each minute. */
        private void turnFans(int first, int other, int k) {
            Arrays.fill(turned, 0);
            Arrays.fill(turnedFrom, NONE);
            for (int told = 0; told < house.sets.size(); told++) {
                int plan = house.sets.at(told, House.SET_PLAN);
                int fan = house.sets.at(told, House.SET_FAN);
                int from = house.sets.at(told, House.SET_MINUTE);
                if (from < 0 || !house.fans.has(fan)) {
                    continue;
                }
                for (int minute = from; minute < MINUTES; minute++) {
                    int at = minute * MOST_FANS + fan;
                    if ((minute < k ? first : other) == plan && from >= turnedFrom[at]) {
                        turnedFrom[at] = from;
                        turned[at] = house.sets.at(told, House.SET_IS);
                    }
                }
            }
        }

        private void loseFans(int minute) {
            for (int fan = 0; minute > 0 && fan < house.fans.size(); fan++) {
                if (lost[fan] == NONE && isTooMuch(fan, minute - 1)) {
                    lost[fan] = minute;
                }
            }
        }

        private boolean isTooMuch(int fan, int minute) {
            int way = house.fans.at(fan, House.FAN_WAY);
            int exposed = house.fans.at(fan, House.FAN_CABLE)
                    | 1 << house.ways.at(way, House.WAY_A) | 1 << house.ways.at(way, House.WAY_B);
            int bears = house.fans.at(fan, House.FAN_BEARS);
            for (int piece = 0; piece < house.pieces.size(); piece++) {
                if ((exposed >> piece & 1) == 1 && aboveIn(piece, minute) >= bears) {
                    return true;
                }
            }
            return false;
        }

        private void driveAir(int minute) {
            int from = minute * MOST_WAYS;
            for (int way = 0; way < house.ways.size(); way++) {
                airs[from + way] = house.ways.at(way, House.WAY_DRAUGHT);
            }
            for (int fan = 0; fan < house.fans.size(); fan++) {
                int way = house.fans.at(fan, House.FAN_WAY);
                if (lost[fan] == NONE && house.ways.has(way)) {
                    airs[from + way] += house.fans.at(fan, House.FAN_PUSH) * turned[minute * MOST_FANS + fan];
                }
            }
            for (int way = 0; way < house.ways.size(); way++) {
                airs[from + way] = Math.max(-MOST_AIR, Math.min(MOST_AIR, airs[from + way]));
            }
        }

        private void step(int minute, int burning, int gives) {
            begin(minute, burning, gives);
            for (int way = 0; way < house.ways.size(); way++) {
                int a = house.ways.at(way, House.WAY_A);
                int b = house.ways.at(way, House.WAY_B);
                int air = airs[minute * MOST_WAYS + way];
                if (house.pieces.has(a) && house.pieces.has(b)) {
                    carry(minute, a, b, air);
                    carry(minute, b, a, -air);
                }
            }
            for (int piece = 0; piece < house.pieces.size(); piece++) {
                settle(minute, piece);
            }
            for (int piece = 0; piece < house.pieces.size(); piece++) {
                if (minute + 1 >= house.pieces.at(piece, House.PIECE_WATER)) {
                    wash(minute + 1, piece);
                }
            }
        }

        private void begin(int minute, int burning, int gives) {
            for (int piece = 0; piece < house.pieces.size(); piece++) {
                leftAbove[piece] = aboveIn(piece, minute) + (piece == burning ? gives : 0);
                leftMixed[piece] = mixedIn(piece, minute);
                shares[piece] = leftAbove[piece] / 8;
            }
            for (int what = 0; what < TOTALS; what++) {
                totals[(minute + 1) * TOTALS + what] = totals[minute * TOTALS + what];
            }
            totals[(minute + 1) * TOTALS + GAVE] += gives;
            stirred = 0;
        }

        /** From one end of a way to the other one, by the air that goes there (below 0: that comes). */
        private void carry(int minute, int from, int to, int air) {
            int arrives = (minute + 1) * MOST_PIECES + to;
            if (air >= STIRS || air <= -STIRS) {
                stirred |= 1 << from;
            }
            if (air > -HOLDS_BACK) {
                int goes = Math.min(shares[from], leftAbove[from]);
                leftAbove[from] -= goes;
                above[arrives] += goes;
            }
            if (air > 0) {
                int goes = Math.min(mixedIn(from, minute) * air / 16, leftMixed[from]);
                leftMixed[from] -= goes;
                mixed[arrives] += goes;
            }
        }

        /** What the ways have left: some is gone by the out, of what lies above some is mixed, the rest stays. */
        private void settle(int minute, int piece) {
            int stays = (minute + 1) * MOST_PIECES + piece;
            if (house.pieces.at(piece, House.PIECE_OUT) > 0) {
                int goneAbove = Math.min(shares[piece], leftAbove[piece]);
                int goneMixed = Math.min(mixedIn(piece, minute) * 2 / 16, leftMixed[piece]);
                leftAbove[piece] -= goneAbove;
                leftMixed[piece] -= goneMixed;
                totals[(minute + 1) * TOTALS + GONE] += goneAbove + goneMixed;
            }
            int mixes = (stirred >> piece & 1) == 1 ? leftAbove[piece] : leftAbove[piece] / 4;
            above[stays] += leftAbove[piece] - mixes;
            mixed[stays] += leftMixed[piece] + mixes;
        }

        private void wash(int minute, int piece) {
            int washed = mixedIn(piece, minute) / 4;
            mixed[minute * MOST_PIECES + piece] -= washed;
            totals[minute * TOTALS + WASHED] += washed;
        }
    }

    /**
     * The most that can go from a source to a sink. Arcs come in pairs, of which the second one is the
     * way back (number ^ 1). Rounds of deep searches go on until one finds no path any more: what that one
     * has seen is the least set that proves it.
     */
    private static final class Net {
        static final int SOURCE = 2 * MINUTES * MOST_PIECES;
        static final int SINK = SOURCE + 1;
        private static final int NODES = SINK + 1;
        private static final int MOST_ARCS = 2048;
        private static final int MOST_ROUNDS = MILLION;
        private static final int MOST_STEPS = MILLION;
        private final int[] heads = new int[NODES];
        private final int[] pointers = new int[NODES];
        private final int[] path = new int[NODES];
        private final boolean[] seen = new boolean[NODES];
        private final int[] later = new int[MOST_ARCS];
        private final int[] ends = new int[MOST_ARCS];
        private final int[] free = new int[MOST_ARCS];
        private int arcs;

        void clear() {
            arcs = 0;
            for (int node = 0; node < NODES; node++) {
                heads[node] = NONE;
            }
        }

        void join(int from, int to, int wide) {
            boolean known = from >= 0 && from < NODES && to >= 0 && to < NODES;
            if (known && wide > 0 && arcs + 2 <= MOST_ARCS) {
                addArc(from, to, wide);
                addArc(to, from, 0);
            }
        }

        int most() {
            int through = 0;
            for (int round = 0; round < MOST_ROUNDS; round++) {
                int more = searchRound();
                through += more;
                if (more == 0) {
                    break;
                }
            }
            return through;
        }

        /** Whether the last search, that found no path, came to a node. */
        boolean isReached(int node) {
            return node >= 0 && node < NODES && seen[node];
        }

        private void addArc(int from, int to, int wide) {
            ends[arcs] = to;
            free[arcs] = wide;
            later[arcs] = heads[from];
            heads[from] = arcs;
            arcs++;
        }

        private int searchRound() {
            for (int node = 0; node < NODES; node++) {
                seen[node] = false;
                pointers[node] = heads[node];
            }
            seen[SOURCE] = true;
            int through = 0;
            int depth = 0;
            int node = SOURCE;
            for (int step = 0; step < MOST_STEPS && depth < NODES; step++) {
                int arc = nextArc(node);
                if (arc == NONE && depth == 0) {
                    break;
                }
                if (arc == NONE) {
                    depth--;
                    node = ends[path[depth] ^ 1];
                } else {
                    path[depth] = arc;
                    depth++;
                    node = ends[arc];
                    seen[node] = true;
                }
                if (node == SINK) {
                    int goes = leastFree(depth);
                    through += goes;
                    depth = send(depth, goes);
                    node = depth == 0 ? SOURCE : ends[path[depth - 1]];
                }
            }
            return through;
        }

        /** The next arc of a node that has something free and leads to where the search isn't and wasn't in vain. */
        private int nextArc(int node) {
            int arc = pointers[node];
            for (int tried = 0; tried < MOST_ARCS && arc != NONE; tried++) {
                if (free[arc] > 0 && !seen[ends[arc]]) {
                    break;
                }
                arc = later[arc];
            }
            pointers[node] = arc;
            return arc;
        }

        private int leastFree(int depth) {
            int least = Escape.ANY;
            for (int at = 0; at < depth; at++) {
                int left = free[path[at]];
                least = left < least ? left : least;
            }
            return least;
        }

        /** Sends so many along the path; answers how much of the path stands ahead of the first full arc. */
        private int send(int depth, int goes) {
            int stands = depth;
            for (int at = depth - 1; at >= 0; at--) {
                int arc = path[at];
                free[arc] -= goes;
                free[arc ^ 1] += goes;
                if (free[arc] == 0) {
                    stands = at;
                }
            }
            for (int at = stands; at < depth; at++) {
                seen[ends[path[at]]] = false;
            }
            return stands;
        }
    }

    /** Who can be out, by the smoke that was followed last. */
    private static final class Escape {
        static final int ANY = MILLION;
        private static final int FIRST_BEING = 8;
        private final House house;
        private final Smoke smoke;
        private final Net net = new Net();

        Escape(House house, Smoke smoke) {
            this.house = house;
            this.smoke = smoke;
        }

        /** Out by a minute, with ways so many times as long and these doors. */
        int most(int by, int times, int doors) {
            net.clear();
            joinRooms(by);
            joinWays(by, times);
            joinExits(by, doors);
            joinGroups(by);
            return net.most();
        }

        /** Halves the minutes that are left: who can be out by one can be out by each later one. */
        int firstForAll() {
            int people = house.allPeople();
            int low = 0;
            int high = MINUTES;
            for (int halving = 0; halving < MINUTES && low < high; halving++) {
                int by = (low + high) / 2;
                if (most(by, house.walkTimes(), house.madeDoors()) == people) {
                    high = by;
                } else {
                    low = by + 1;
                }
            }
            return low == MINUTES ? NONE : low;
        }

        boolean fitsDrills(int times) {
            for (int drill = 0; drill < house.drills.size(); drill++) {
                int by = house.drills.at(drill, House.DRILL_BY);
                if (most(by, times, house.madeDoors()) < house.drills.at(drill, House.DRILL_PEOPLE)) {
                    return false;
                }
            }
            return true;
        }

        /** The number for a minute of the side that the last most() left. */
        int sideAt(int minute) {
            int number = 0;
            for (int piece = 0; piece < house.pieces.size(); piece++) {
                if (net.isReached(begin(piece, minute))) {
                    number |= 1 << piece;
                }
                if (net.isReached(being(piece, minute))) {
                    number |= 1 << FIRST_BEING + piece;
                }
            }
            return number;
        }

        /** NONE if the side is open. */
        int worthOf(Rows rows, int row, int by) {
            int worth = 0;
            for (int minute = 0; minute <= by; minute++) {
                for (int piece = 0; piece < house.pieces.size(); piece++) {
                    boolean begins = isIn(rows, row, minute, piece);
                    boolean is = isIn(rows, row, minute, FIRST_BEING + piece);
                    if (is && minute < by && !isIn(rows, row, minute + 1, piece)) {
                        return NONE;
                    }
                    if (begins && !is && !smoke.isShut(piece, minute)) {
                        worth += house.pieces.at(piece, House.PIECE_ROOM);
                    }
                    if (is && minute < by) {
                        worth += house.exitWidth(piece, house.madeDoors());
                    }
                }
            }
            return worth + worthOfGroups(rows, row, by) + worthOfWays(rows, row, by);
        }

        private int worthOfGroups(Rows rows, int row, int by) {
            int worth = 0;
            for (int group = 0; group < house.groups.size(); group++) {
                int start = house.groups.at(group, House.GROUP_START);
                if (start <= by && !isIn(rows, row, start, house.groups.at(group, House.GROUP_PIECE))) {
                    worth += house.groups.at(group, House.GROUP_PEOPLE);
                }
            }
            return worth;
        }

        private int worthOfWays(Rows rows, int row, int by) {
            int worth = 0;
            for (int way = 0; way < house.ways.size(); way++) {
                int a = house.ways.at(way, House.WAY_A);
                int b = house.ways.at(way, House.WAY_B);
                int takes = house.ways.at(way, House.WAY_LONG) * house.walkTimes();
                int wide = house.ways.at(way, House.WAY_WIDE);
                for (int minute = 0; minute + takes <= by; minute++) {
                    if (isIn(rows, row, minute, FIRST_BEING + a) && !isIn(rows, row, minute + takes, b)) {
                        worth += wide;
                    }
                    if (isIn(rows, row, minute, FIRST_BEING + b) && !isIn(rows, row, minute + takes, a)) {
                        worth += wide;
                    }
                }
            }
            return worth;
        }

        private static boolean isIn(Rows rows, int row, int minute, int bit) {
            return (rows.at(row, minute) >> bit & 1L) == 1L;
        }

        private static int begin(int piece, int minute) {
            return 2 * (minute * MOST_PIECES + piece);
        }

        private static int being(int piece, int minute) {
            return 2 * (minute * MOST_PIECES + piece) + 1;
        }

        private void joinRooms(int by) {
            for (int piece = 0; piece < house.pieces.size(); piece++) {
                int room = house.pieces.at(piece, House.PIECE_ROOM);
                for (int minute = 0; minute <= by; minute++) {
                    net.join(begin(piece, minute), being(piece, minute), smoke.isShut(piece, minute) ? 0 : room);
                    if (minute < by) {
                        net.join(being(piece, minute), begin(piece, minute + 1), ANY);
                    }
                }
            }
        }

        private void joinWays(int by, int times) {
            for (int way = 0; way < house.ways.size(); way++) {
                int a = house.ways.at(way, House.WAY_A);
                int b = house.ways.at(way, House.WAY_B);
                int takes = house.ways.at(way, House.WAY_LONG) * times;
                int wide = house.ways.at(way, House.WAY_WIDE);
                for (int minute = 0; minute + takes <= by; minute++) {
                    net.join(being(a, minute), begin(b, minute + takes), wide);
                    net.join(being(b, minute), begin(a, minute + takes), wide);
                }
            }
        }

        private void joinExits(int by, int doors) {
            for (int piece = 0; piece < house.pieces.size(); piece++) {
                int wide = house.exitWidth(piece, doors);
                for (int minute = 0; minute < by; minute++) {
                    net.join(being(piece, minute), Net.SINK, wide);
                }
            }
        }

        private void joinGroups(int by) {
            for (int group = 0; group < house.groups.size(); group++) {
                int start = house.groups.at(group, House.GROUP_START);
                if (start <= by) {
                    int piece = house.groups.at(group, House.GROUP_PIECE);
                    net.join(Net.SOURCE, begin(piece, start), house.groups.at(group, House.GROUP_PEOPLE));
                }
            }
        }
    }

    /** Plans held against one another, and doors for all of some fires. */
    private static final class Turns {
        private final House house;
        private final Acts acts;
        private final Smoke smoke;
        private final Escape escape;
        private final Watch watch;
        private final int[] outs = new int[(MOST_FIRES + 1) * PLANS * PLANS];
        private final int[] stamps = new int[(MOST_FIRES + 1) * PLANS * PLANS];
        private final int[] regrets = new int[MOST_FIRES * PLANS];

        Turns(House house, Acts acts, Smoke smoke, Escape escape, Watch watch) {
            this.house = house;
            this.acts = acts;
            this.smoke = smoke;
            this.escape = escape;
            this.watch = watch;
        }

        /** Kept for each pair of plans and fire as long as nothing is told and k and by are the same ones. */
        int outBy(int first, int other, int k, int fire, int by) {
            int before = k == 0 ? other : first;
            // what the fans do from minute by on shuts nothing by then
            int behind = k >= by ? before : other;
            int turn = before == behind ? 0 : k;
            int at = ((fire == NONE ? MOST_FIRES : fire) * PLANS + before) * PLANS + behind;
            if (at < 0 || at >= outs.length) {
                return 0;
            }
            int stamp = (acts.version() * MINUTES + turn) * MINUTES + by + 1;
            if (stamps[at] != stamp) {
                smoke.follow(before, behind, turn, fire);
                outs[at] = escape.most(by, house.walkTimes(), house.madeDoors());
                stamps[at] = stamp;
            }
            return outs[at];
        }

        int regretOf(int first, int other, int k, int fire, int by) {
            int most = 0;
            for (int alone = 0; alone < PLANS; alone++) {
                most = Math.max(most, outBy(alone, alone, 0, fire, by));
            }
            return most - outBy(first, other, k, fire, by);
        }

        /** Finds the regrets of all that a turn may choose: for each fire and plan from k on. */
        void weigh(int plan, int k, int by) {
            for (int fire = 0; fire < house.fires.size(); fire++) {
                for (int other = 0; other < PLANS; other++) {
                    regrets[fire * PLANS + other] = regretOf(plan, other, k, fire, by);
                }
            }
        }

        /** The plan to which the turn goes that was weighed last. */
        int planFor(int fire, int k) {
            int plan = 0;
            for (int other = 1; other < PLANS; other++) {
                if (greatestRegret(fire, other, k) < greatestRegret(fire, plan, k)) {
                    plan = other;
                }
            }
            return plan;
        }

        /** The regret of the turn that was weighed last. */
        int regretOfTurn(int k) {
            int greatest = -MILLION;
            for (int fire = 0; fire < house.fires.size(); fire++) {
                greatest = Math.max(greatest, regrets[fire * PLANS + planFor(fire, k)]);
            }
            return greatest;
        }

        /** As few as can be, of these the least cost, of these the least set; NONE if there is none. */
        int fewestDoors(int plan, int by, int fires) {
            int made = house.madeDoors();
            int best = NONE;
            for (int set = 0; set < 1 << house.doors.size(); set++) {
                if ((set & made) == 0 && isBetter(set, best) && areAllOut(plan, by, fires, set | made)) {
                    best = set;
                }
            }
            return best;
        }

        /** The regret of a plan in the class of a fire. */
        private int greatestRegret(int fire, int other, int k) {
            int greatest = -MILLION;
            for (int like = 0; like < house.fires.size(); like++) {
                if (watch.sameTold(fire, like, k)) {
                    greatest = Math.max(greatest, regrets[like * PLANS + other]);
                }
            }
            return greatest;
        }

        private boolean isBetter(int set, int best) {
            if (best == NONE) {
                return true;
            }
            int many = Integer.compare(Integer.bitCount(set), Integer.bitCount(best));
            return many < 0 || many == 0 && house.doorCost(set) < house.doorCost(best);
        }

        private boolean areAllOut(int plan, int by, int fires, int doors) {
            int people = house.allPeople();
            for (int fire = 0; fire <= MOST_FIRES; fire++) {
                if ((fires >> fire & 1) == 1) {
                    smoke.follow(plan, plan, 0, fire == MOST_FIRES ? NONE : fire);
                    if (escape.most(by, house.walkTimes(), doors) < people) {
                        return false;
                    }
                }
            }
            return true;
        }
    }

    /** What gauges tell with each fire, and with none, by the plan that was looked at last; which fires fit. */
    private static final class Watch {
        private final House house;
        private final Smoke smoke;
        private final int[] marked = new int[(MOST_FIRES + 1) * MINUTES];

        Watch(House house, Smoke smoke) {
            this.house = house;
            this.smoke = smoke;
        }

        void look(int plan) {
            for (int fire = 0; fire < house.fires.size(); fire++) {
                smoke.follow(plan, plan, 0, fire);
                keep(fire);
            }
            smoke.follow(plan, plan, 0, NONE);
            keep(MOST_FIRES);
        }

        boolean sameTold(int a, int b, int minute) {
            int gauges = house.dials.at(0, House.DIAL_GAUGES);
            int up = Math.min(LAST_MINUTE, minute - house.dials.at(0, House.DIAL_LAG));
            for (int at = 0; at <= up; at++) {
                if (((markedAt(a, at) ^ markedAt(b, at)) & gauges) != 0) {
                    return false;
                }
            }
            return true;
        }

        /** The set of the fires that fit all readings, with 16 for that none burns. */
        int fitting() {
            int fit = 0;
            for (int fire = 0; fire < house.fires.size(); fire++) {
                if (fitsAll(fire)) {
                    fit |= 1 << fire;
                }
            }
            return fitsAll(NONE) ? fit | NONE_BURNS : fit;
        }

        int asked() {
            int fit = fitting();
            int many = Integer.bitCount(fit);
            if (many < 2) {
                return NONE;
            }
            int asked = NONE;
            int least = many + 1;
            for (int minute = 0; minute < MINUTES; minute++) {
                for (int piece = 0; piece < house.pieces.size(); piece++) {
                    int with = countMarked(fit, piece, minute);
                    int greater = Math.max(with, many - with);
                    if ((house.dials.at(0, House.DIAL_GAUGES) >> piece & 1) == 1 && greater < least) {
                        least = greater;
                        asked = 8 * minute + piece;
                    }
                }
            }
            return asked;
        }

        private void keep(int place) {
            for (int minute = 0; minute < MINUTES; minute++) {
                int set = 0;
                for (int piece = 0; piece < house.pieces.size(); piece++) {
                    if (smoke.isMarked(piece, minute)) {
                        set |= 1 << piece;
                    }
                }
                marked[place * MINUTES + minute] = set;
            }
        }

        /** The pieces with as much as the mark, gauge or not. */
        private int markedAt(int fire, int minute) {
            int place = fire == NONE ? MOST_FIRES : fire;
            boolean known = place >= 0 && place <= MOST_FIRES && minute >= 0 && minute < MINUTES;
            return known ? marked[place * MINUTES + minute] : 0;
        }

        private boolean fitsAll(int fire) {
            for (int reading = 0; reading < house.readings.size(); reading++) {
                int piece = house.readings.at(reading, House.READING_PIECE);
                int minute = house.readings.at(reading, House.READING_MINUTE);
                if ((markedAt(fire, minute) >> piece & 1) != house.readings.at(reading, House.READING_IS)) {
                    return false;
                }
            }
            return true;
        }

        private int countMarked(int fit, int piece, int minute) {
            int with = 0;
            for (int fire = 0; fire <= MOST_FIRES; fire++) {
                if ((fit >> fire & 1) == 1) {
                    with += marked[fire * MINUTES + minute] >> piece & 1;
                }
            }
            return with;
        }
    }

    /** A crew with air, by the smoke that was followed last. */
    private static final class Crew {
        private static final int TOO_MUCH = MILLION;
        private final House house;
        private final Smoke smoke;
        private final int[] there = new int[MINUTES * MOST_PIECES];
        private final int[] back = new int[MINUTES * MOST_PIECES];

        Crew(House house, Smoke smoke) {
            this.house = house;
            this.smoke = smoke;
        }

        int firstReach(int piece, int air) {
            if (!house.pieces.has(piece)) {
                return NONE;
            }
            goThere();
            comeBack();
            for (int minute = 0; minute < MINUTES; minute++) {
                if (there[spot(piece, minute)] + back[spot(piece, minute)] <= air) {
                    return minute;
                }
            }
            return NONE;
        }

        /** The least air with which a crew is in a piece in a minute. */
        private void goThere() {
            Arrays.fill(there, TOO_MUCH);
            for (int piece = 0; piece < house.pieces.size(); piece++) {
                if (house.pieces.at(piece, House.PIECE_OUT) > 0) {
                    there[spot(piece, 0)] = 0;
                }
            }
            for (int minute = 0; minute < MINUTES; minute++) {
                for (int piece = 0; piece < house.pieces.size(); piece++) {
                    there[spot(piece, minute)] = Math.min(there[spot(piece, minute)], leastThere(piece, minute));
                }
            }
        }

        private int leastThere(int piece, int minute) {
            int least = minute > 0 ? there[spot(piece, minute - 1)] + 1 : TOO_MUCH;
            for (int way = 0; way < house.ways.size(); way++) {
                int end = house.otherEnd(way, piece);
                int takes = house.ways.at(way, House.WAY_LONG);
                if (end != NONE && takes > 0 && takes <= minute) {
                    least = Math.min(least, there[spot(end, minute - takes)] + takes);
                }
            }
            return least + comes(piece, minute);
        }

        /** The least air that is needed from a piece and a minute to be in a piece with an out. */
        private void comeBack() {
            for (int minute = LAST_MINUTE; minute >= 0; minute--) {
                for (int piece = 0; piece < house.pieces.size(); piece++) {
                    boolean isOut = house.pieces.at(piece, House.PIECE_OUT) > 0;
                    back[spot(piece, minute)] = isOut ? 0 : leastBack(piece, minute);
                }
            }
        }

        private int leastBack(int piece, int minute) {
            int least = TOO_MUCH;
            if (minute < LAST_MINUTE) {
                least = back[spot(piece, minute + 1)] + 1 + comes(piece, minute + 1);
            }
            for (int way = 0; way < house.ways.size(); way++) {
                int end = house.otherEnd(way, piece);
                int takes = house.ways.at(way, House.WAY_LONG);
                if (end != NONE && takes > 0 && minute + takes <= LAST_MINUTE) {
                    int needs = back[spot(end, minute + takes)] + takes + comes(end, minute + takes);
                    least = Math.min(least, needs);
                }
            }
            return Math.min(least, TOO_MUCH);
        }

        /** What it needs more where it comes to be. */
        private int comes(int piece, int minute) {
            return smoke.isShut(piece, minute) ? 2 : 0;
        }
    }

    /** A person alone, by the smoke that was followed last: the best way from each piece and minute. */
    private static final class Person {
        private static final int GO_OUT = 0;
        private static final int STAY = 1;
        private static final int FIRST_WAY = 2;
        private final House house;
        private final Smoke smoke;
        private final int[] doses = new int[MINUTES * MOST_PIECES];
        private final int[] outs = new int[MINUTES * MOST_PIECES];
        private final int[] deeds = new int[MINUTES * MOST_PIECES];

        Person(House house, Smoke smoke) {
            this.house = house;
            this.smoke = smoke;
        }

        void weigh() {
            int made = house.madeDoors();
            for (int minute = LAST_MINUTE; minute >= 0; minute--) {
                for (int piece = 0; piece < house.pieces.size(); piece++) {
                    choose(piece, minute, made);
                }
            }
        }

        int doseFrom(int piece, int start) {
            return isPlace(piece, start) ? doses[spot(piece, start)] : NONE;
        }

        int outFrom(int piece, int start) {
            return doseFrom(piece, start) == NONE ? NONE : outs[spot(piece, start)];
        }

        int whereFrom(int piece, int start, int minute) {
            if (doseFrom(piece, start) == NONE) {
                return NONE;
            }
            int here = piece;
            int now = start;
            for (int deed = 0; deed < MINUTES && now < minute; deed++) {
                int does = deeds[spot(here, now)];
                if (does == GO_OUT) {
                    return NONE;
                }
                now += takes(does);
                here = does == STAY ? here : house.otherEnd(does - FIRST_WAY, here);
                if (!isPlace(here, now)) {
                    return NONE;
                }
            }
            return now == minute ? here : NONE;
        }

        private static boolean isPlace(int piece, int minute) {
            return piece >= 0 && piece < MOST_PIECES && minute >= 0 && minute < MINUTES;
        }

        /** Deeds are tried in the order in which they come first, so a later one counts only if it is better. */
        private void choose(int piece, int minute, int made) {
            int at = spot(piece, minute);
            doses[at] = NONE;
            if (smoke.isShut(piece, minute)) {
                return;
            }
            if (minute < LAST_MINUTE && house.exitWidth(piece, made) > 0) {
                doses[at] = 0;
                outs[at] = minute + 1;
                deeds[at] = GO_OUT;
            }
            tryDeed(at, piece, minute + 1, STAY);
            for (int way = 0; way < house.ways.size(); way++) {
                int end = house.otherEnd(way, piece);
                if (end != NONE) {
                    tryDeed(at, end, minute + takes(FIRST_WAY + way), FIRST_WAY + way);
                }
            }
            if (doses[at] != NONE) {
                doses[at] += smoke.mixedIn(piece, minute);
            }
        }

        private void tryDeed(int at, int piece, int minute, int deed) {
            if (!isPlace(piece, minute)) {
                return;
            }
            int then = spot(piece, minute);
            boolean isBetter = doses[at] == NONE || doses[then] < doses[at]
                    || doses[then] == doses[at] && outs[then] < outs[at];
            if (doses[then] != NONE && isBetter) {
                doses[at] = doses[then];
                outs[at] = outs[then];
                deeds[at] = deed;
            }
        }

        private int takes(int deed) {
            return deed == STAY ? 1 : house.ways.at(deed - FIRST_WAY, House.WAY_LONG) * house.walkTimes();
        }
    }

    /** Rows of numbers that a side may be told as. */
    private static final class Rows {
        static final int SORTS = 4;
        private final long[] cells = new long[MOST_ROWS * MOST_PLACES];
        private final int[] sorts = new int[MOST_ROWS];
        private final int[] lengths = new int[MOST_ROWS];
        private int there;

        void start(int row, int sort, int many) {
            if (row < 0 || row >= MOST_ROWS) {
                return;
            }
            there |= 1 << row;
            sorts[row] = sort;
            lengths[row] = Math.max(0, Math.min(many, MOST_PLACES));
            for (int place = 0; place < MOST_PLACES; place++) {
                cells[row * MOST_PLACES + place] = 0;
            }
        }

        boolean isMissing(int row) {
            return (there >> row & 1) == 0;
        }

        int lengthOf(int row) {
            return row >= 0 && row < MOST_ROWS ? lengths[row] : 0;
        }

        long at(int row, int place) {
            return place >= 0 && place < lengthOf(row) ? cells[row * MOST_PLACES + place] : 0;
        }

        /** As it is there. */
        long put(int row, int place, long v) {
            if (place < 0 || place >= lengthOf(row)) {
                return 0;
            }
            long cut = cut(sorts[row], v);
            cells[row * MOST_PLACES + place] = cut;
            return cut;
        }

        private static long cut(int sort, long v) {
            switch (sort) {
                case 0: return (byte) v;
                case 1: return (short) v;
                case 2: return (int) v;
                default: return v;
            }
        }
    }
}
