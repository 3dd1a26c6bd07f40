import java.util.ArrayDeque;
import java.util.ArrayList;
import java.util.Arrays;
import java.util.LinkedHashMap;
import java.util.List;
import java.util.Map;
import java.util.NoSuchElementException;
import java.util.TreeSet;

/**
 * The document once more, as plainly as can be and by other means than the class: the state is what a list of
 * acts says when it is gone through anew, paths are kept as lists, crews as sets of states. Slow, but easy to
 * hold against the document; RandomRuns holds the class against it.
 */
final class PlainTubes {
    static final int NONE = -1;
    private static final long ENDLESS = 1L << 40;

    private record Piece(int room, int out, int[] water) { }
    private record Way(int a, int b, int minutes, int width, int draught) { }
    private record Fire(int piece, int from, int to, int first, int grows, int top) { }
    private record Fan(int way, int push, int bears, int cable) { }
    private record Told(int plan, int fan, int minute, int is) { }
    private record Group(int piece, int people, int start) { }
    private record Door(int piece, int width, int cost, boolean[] made) { }
    private record Drill(int by, int people) { }
    private record Reading(int piece, int minute, boolean is) { }

    /** All that is told, as the acts that stand leave it. */
    private static final class State {
        final List<Piece> pieces = new ArrayList<>();
        final List<Way> ways = new ArrayList<>();
        final List<Fire> fires = new ArrayList<>();
        final List<Fan> fans = new ArrayList<>();
        final List<Told> told = new ArrayList<>();
        final List<Group> groups = new ArrayList<>();
        final List<Door> doors = new ArrayList<>();
        final List<Drill> drills = new ArrayList<>();
        final List<Reading> readings = new ArrayList<>();
        int eyes = 1000;
        int walk = 1;
        int gauges = 0;
        int mark = 1;
        int lag = 1;
    }

    private interface Act {
        void on(State s);
    }

    private final List<Act> acts = new ArrayList<>();
    private final List<Act> takenBack = new ArrayList<>();
    private int mayBeTakenBack = 0;
    private State s = new State();
    private final long[][] rows = new long[4][];
    private final int[] sorts = new int[4];

    private void act(Act act) {
        acts.add(act);
        takenBack.clear();
        mayBeTakenBack = Math.min(100, mayBeTakenBack + 1);
        act.on(s);
    }

    private void goThroughAnew() {
        s = new State();
        for (Act act : acts) {
            act.on(s);
        }
    }

    private static void sure(boolean so) {
        if (!so) {
            throw new IllegalArgumentException();
        }
    }

    private static void there(int number, List<?> of) {
        if (number < 0 || number >= of.size()) {
            throw new NoSuchElementException();
        }
    }

    private void fireOrNone(int fire) {
        if (fire != NONE) {
            there(fire, s.fires);
        }
    }

    private static boolean in(int v, int low, int high) {
        return low <= v && v <= high;
    }

    private void course(int first, int other, int k) {
        sure(in(first, 0, 3) && in(other, 0, 3) && in(k, 0, 21));
    }

    // ---- what there is

    int piece(int room, int out) {
        sure(in(room, 1, 200) && in(out, 0, 40));
        if (s.pieces.size() == 8) {
            return NONE;
        }
        act(t -> t.pieces.add(new Piece(room, out, new int[] {21})));
        return s.pieces.size() - 1;
    }

    int way(int a, int b, int minutes, int width, int draught) {
        there(a, s.pieces);
        there(b, s.pieces);
        sure(a != b && in(minutes, 1, 4) && in(width, 1, 40) && in(draught, -8, 8));
        if (s.ways.size() == 12) {
            return NONE;
        }
        act(t -> t.ways.add(new Way(a, b, minutes, width, draught)));
        return s.ways.size() - 1;
    }

    int water(int piece, int minute) {
        there(piece, s.pieces);
        sure(in(minute, 0, 21));
        int was = s.pieces.get(piece).water[0];
        act(t -> t.pieces.get(piece).water[0] = minute);
        return was;
    }

    int fire(int piece, int from, int to, int first, int grows, int top) {
        there(piece, s.pieces);
        sure(in(from, 0, 20) && in(to, 0, 21) && to > from);
        sure(in(first, 0, 100000) && in(grows, 0, 100000) && in(top, 0, 100000));
        if (s.fires.size() == 4) {
            return NONE;
        }
        act(t -> t.fires.add(new Fire(piece, from, to, first, grows, top)));
        return s.fires.size() - 1;
    }

    private boolean isPieceSet(int set) {
        for (int bit = 0; bit < 32; bit++) {
            if ((set >>> bit & 1) == 1 && bit >= s.pieces.size()) {
                return false;
            }
        }
        return true;
    }

    int fan(int way, int push, int bears, int cable) {
        there(way, s.ways);
        sure(in(push, 1, 6) && in(bears, 1, 1000000) && isPieceSet(cable));
        if (s.fans.size() == 8) {
            return NONE;
        }
        act(t -> t.fans.add(new Fan(way, push, bears, cable)));
        return s.fans.size() - 1;
    }

    int set(int plan, int fan, int minute, int is) {
        there(fan, s.fans);
        sure(in(plan, 0, 3) && in(minute, 0, 20) && in(is, -1, 1));
        if (s.told.size() == 60) {
            return NONE;
        }
        act(t -> t.told.add(new Told(plan, fan, minute, is)));
        return s.told.size() - 1;
    }

    int eyes(int most) {
        sure(in(most, 0, 1000000));
        int was = s.eyes;
        act(t -> t.eyes = most);
        return was;
    }

    int group(int piece, int people, int start) {
        there(piece, s.pieces);
        sure(in(people, 1, 60) && in(start, 0, 20));
        if (s.groups.size() == 10) {
            return NONE;
        }
        act(t -> t.groups.add(new Group(piece, people, start)));
        return s.groups.size() - 1;
    }

    int walk(int times) {
        sure(in(times, 1, 3));
        int was = s.walk;
        act(t -> t.walk = times);
        return was;
    }

    int door(int piece, int width, int cost) {
        there(piece, s.pieces);
        sure(in(width, 1, 40) && in(cost, 1, 1000));
        if (s.doors.size() == 6) {
            return NONE;
        }
        act(t -> t.doors.add(new Door(piece, width, cost, new boolean[1])));
        return s.doors.size() - 1;
    }

    boolean make(int door, boolean is) {
        there(door, s.doors);
        boolean was = s.doors.get(door).made[0];
        act(t -> t.doors.get(door).made[0] = is);
        return was;
    }

    void gauges(int pieces, int mark, int lag) {
        sure(isPieceSet(pieces) && in(mark, 1, 1000000) && in(lag, 0, 5));
        act(t -> {
            t.gauges = pieces;
            t.mark = mark;
            t.lag = lag;
        });
    }

    // ---- air and smoke

    /** A course and a fire, gone through from minute 0. */
    private final class Air {
        final long[][] above = new long[21][s.pieces.size()];
        final long[][] mixed = new long[21][s.pieces.size()];
        final int[][] air = new int[21][s.ways.size()];
        final boolean[][] lost = new boolean[21][s.fans.size()];
        final long[] gave = new long[21];
        final long[] gone = new long[21];
        final long[] washed = new long[21];

        Air(int first, int other, int k, int fire) {
            for (int t = 0; t <= 20; t++) {
                for (int f = 0; f < s.fans.size(); f++) {
                    lost[t][f] = t > 0 && (lost[t - 1][f] || breaks(s.fans.get(f), t - 1));
                }
                for (int w = 0; w < s.ways.size(); w++) {
                    int sum = s.ways.get(w).draught;
                    for (int f = 0; f < s.fans.size(); f++) {
                        if (s.fans.get(f).way == w && !lost[t][f]) {
                            sum += s.fans.get(f).push * is(t < k ? first : other, f, t);
                        }
                    }
                    air[t][w] = sum > 12 ? 12 : sum < -12 ? -12 : sum;
                }
                if (t < 20) {
                    step(t, fire);
                }
            }
        }

        private boolean breaks(Fan fan, int t) {
            Way way = s.ways.get(fan.way);
            for (int p = 0; p < s.pieces.size(); p++) {
                boolean near = (fan.cable >> p & 1) == 1 || way.a == p || way.b == p;
                if (near && above[t][p] >= fan.bears) {
                    return true;
                }
            }
            return false;
        }

        private int is(int plan, int fan, int t) {
            for (int from = t; from >= 0; from--) {
                for (int n = s.told.size() - 1; n >= 0; n--) {
                    Told told = s.told.get(n);
                    if (told.plan == plan && told.fan == fan && told.minute == from) {
                        return told.is;
                    }
                }
            }
            return 0;
        }

        private void step(int t, int fire) {
            long gives = 0;
            if (fire != NONE) {
                Fire f = s.fires.get(fire);
                if (t >= f.from && t < f.to) {
                    gives = Math.min(f.top, f.first + (long) f.grows * (t - f.from));
                }
            }
            gave[t + 1] = gave[t] + gives;
            gone[t + 1] = gone[t];
            washed[t + 1] = washed[t];
            for (int p = 0; p < s.pieces.size(); p++) {
                long a = above[t][p] + (fire != NONE && s.fires.get(fire).piece == p ? gives : 0);
                long left = a;
                boolean strong = false;
                for (int w = 0; w < s.ways.size(); w++) {
                    Way way = s.ways.get(w);
                    if (way.a != p && way.b != p) {
                        continue;
                    }
                    int towards = way.b == p ? air[t][w] : -air[t][w];
                    strong |= Math.abs(air[t][w]) >= 6;
                    if (towards < 4) {
                        long goes = Math.min(a / 8, left);
                        above[t + 1][way.a == p ? way.b : way.a] += goes;
                        left -= goes;
                    }
                }
                boolean hasOut = s.pieces.get(p).out > 0;
                if (hasOut) {
                    long goes = Math.min(a / 8, left);
                    gone[t + 1] += goes;
                    left -= goes;
                }
                long mixes = strong ? left : left / 4;
                mixed[t + 1][p] += mixes;
                above[t + 1][p] += left - mixes;
                long m = mixed[t][p];
                long rest = m;
                for (int w = 0; w < s.ways.size(); w++) {
                    Way way = s.ways.get(w);
                    int away = way.a == p ? air[t][w] : way.b == p ? -air[t][w] : 0;
                    if (away > 0) {
                        long goes = Math.min(m * away / 16, rest);
                        mixed[t + 1][way.a == p ? way.b : way.a] += goes;
                        rest -= goes;
                    }
                }
                if (hasOut) {
                    long goes = Math.min(m * 2 / 16, rest);
                    gone[t + 1] += goes;
                    rest -= goes;
                }
                mixed[t + 1][p] += rest;
            }
            for (int p = 0; p < s.pieces.size(); p++) {
                if (s.pieces.get(p).water[0] <= t + 1) {
                    long away = mixed[t + 1][p] / 4;
                    mixed[t + 1][p] -= away;
                    washed[t + 1] += away;
                }
            }
        }

        boolean shut(int p, int t) {
            return mixed[t][p] > s.eyes;
        }

        boolean marked(int p, int t) {
            return above[t][p] + mixed[t][p] >= s.mark;
        }
    }

    int air(int first, int other, int k, int fire, int way, int minute) {
        fireOrNone(fire);
        there(way, s.ways);
        course(first, other, k);
        sure(in(minute, 0, 20));
        return new Air(first, other, k, fire).air[minute][way];
    }

    long smoke(int first, int other, int k, int fire, int piece, int minute, boolean above) {
        fireOrNone(fire);
        there(piece, s.pieces);
        course(first, other, k);
        sure(in(minute, 0, 20));
        Air air = new Air(first, other, k, fire);
        return above ? air.above[minute][piece] : air.mixed[minute][piece];
    }

    long given(int first, int other, int k, int fire, int minute, int what) {
        fireOrNone(fire);
        course(first, other, k);
        sure(in(minute, 0, 20) && in(what, 0, 3));
        Air air = new Air(first, other, k, fire);
        if (what == 3) {
            return Arrays.stream(air.above[minute]).sum() + Arrays.stream(air.mixed[minute]).sum();
        }
        return what == 0 ? air.gave[minute] : what == 1 ? air.gone[minute] : air.washed[minute];
    }

    int lost(int first, int other, int k, int fire, int fan) {
        fireOrNone(fire);
        there(fan, s.fans);
        course(first, other, k);
        Air air = new Air(first, other, k, fire);
        for (int t = 0; t <= 20; t++) {
            if (air.lost[t][fan]) {
                return t;
            }
        }
        return NONE;
    }

    boolean shut(int first, int other, int k, int fire, int piece, int minute) {
        fireOrNone(fire);
        there(piece, s.pieces);
        course(first, other, k);
        sure(in(minute, 0, 20));
        return new Air(first, other, k, fire).shut(piece, minute);
    }

    // ---- who can be out

    /** Nodes are texts: "begin 3 7" for beginning to be in PIECE 3 in MINUTE 7. */
    private final class Crowd {
        final Map<String, Map<String, Long>> left = new LinkedHashMap<>();
        long out = 0;

        Crowd(Air air, int by, int walk, int doors) {
            for (Group g : s.groups) {
                if (g.start <= by) {
                    pipe("all", "begin " + g.piece + " " + g.start, g.people);
                }
            }
            for (int t = 0; t <= by; t++) {
                for (int p = 0; p < s.pieces.size(); p++) {
                    String being = "being " + p + " " + t;
                    pipe("begin " + p + " " + t, being, air.shut(p, t) ? 0 : s.pieces.get(p).room);
                    if (t < by) {
                        pipe(being, "begin " + p + " " + (t + 1), ENDLESS);
                        pipe(being, "out", wide(p, doors));
                    }
                    for (Way w : s.ways) {
                        int then = t + w.minutes * walk;
                        if (then <= by && (w.a == p || w.b == p)) {
                            pipe(being, "begin " + (w.a == p ? w.b : w.a) + " " + then, w.width);
                        }
                    }
                }
            }
            for (Map<String, String> way = path(); way.containsKey("out"); way = path()) {
                long goes = ENDLESS;
                for (String at = "out"; !at.equals("all"); at = way.get(at)) {
                    goes = Math.min(goes, left.get(way.get(at)).get(at));
                }
                for (String at = "out"; !at.equals("all"); at = way.get(at)) {
                    pipe(way.get(at), at, -goes);
                    pipe(at, way.get(at), goes);
                }
                out += goes;
            }
        }

        private void pipe(String from, String to, long wide) {
            left.computeIfAbsent(from, n -> new LinkedHashMap<>()).merge(to, wide, Long::sum);
        }

        /** From where each node is reached, by what is left. */
        Map<String, String> path() {
            Map<String, String> from = new LinkedHashMap<>();
            from.put("all", "all");
            ArrayDeque<String> open = new ArrayDeque<>();
            open.add("all");
            while (!open.isEmpty()) {
                String at = open.remove();
                for (Map.Entry<String, Long> e : left.getOrDefault(at, Map.of()).entrySet()) {
                    if (e.getValue() > 0 && !from.containsKey(e.getKey())) {
                        from.put(e.getKey(), at);
                        open.add(e.getKey());
                    }
                }
            }
            return from;
        }

        int sideAt(int minute) {
            Map<String, String> reached = path();
            int number = 0;
            for (int p = 0; p < s.pieces.size(); p++) {
                number += reached.containsKey("begin " + p + " " + minute) ? 1 << p : 0;
                number += reached.containsKey("being " + p + " " + minute) ? 256 << p : 0;
            }
            return number;
        }
    }

    private int made() {
        int made = 0;
        for (int d = 0; d < s.doors.size(); d++) {
            made += s.doors.get(d).made[0] ? 1 << d : 0;
        }
        return made;
    }

    private int wide(int piece, int doors) {
        int wide = s.pieces.get(piece).out;
        for (int d = 0; d < s.doors.size(); d++) {
            if ((doors >> d & 1) == 1 && s.doors.get(d).piece == piece) {
                wide += s.doors.get(d).width;
            }
        }
        return wide;
    }

    private int people() {
        return s.groups.stream().mapToInt(g -> g.people).sum();
    }

    private int outBy(int first, int other, int k, int fire, int by) {
        return (int) new Crowd(new Air(first, other, k, fire), by, s.walk, made()).out;
    }

    int out(int first, int other, int k, int fire, int by) {
        fireOrNone(fire);
        course(first, other, k);
        sure(in(by, 0, 20));
        return outBy(first, other, k, fire, by);
    }

    int all(int first, int other, int k, int fire) {
        fireOrNone(fire);
        course(first, other, k);
        for (int by = 0; by <= 20; by++) {
            if (outBy(first, other, k, fire, by) == people()) {
                return by;
            }
        }
        return NONE;
    }

    int side(int first, int other, int k, int fire, int by, int minute) {
        fireOrNone(fire);
        course(first, other, k);
        sure(in(by, 0, 20) && in(minute, 0, 20) && minute <= by);
        return new Crowd(new Air(first, other, k, fire), by, s.walk, made()).sideAt(minute);
    }

    int worth(int first, int other, int k, int fire, int by, int row) {
        fireOrNone(fire);
        rowThere(row);
        course(first, other, k);
        sure(in(by, 0, 20));
        if (rows[row] == null) {
            throw new IllegalStateException();
        }
        if (rows[row].length <= by) {
            throw new IndexOutOfBoundsException();
        }
        Air air = new Air(first, other, k, fire);
        boolean[][] begins = new boolean[8][by + 1];
        boolean[][] is = new boolean[8][by + 1];
        for (int t = 0; t <= by; t++) {
            int number = (int) (rows[row][t] & 0xffff);
            for (int p = 0; p < 8; p++) {
                begins[p][t] = (number & 1 << p) != 0;
                is[p][t] = (number & 256 << p) != 0;
            }
        }
        int worth = 0;
        for (Group g : s.groups) {
            worth += g.start <= by && !begins[g.piece][g.start] ? g.people : 0;
        }
        for (int p = 0; p < s.pieces.size(); p++) {
            for (int t = 0; t <= by; t++) {
                if (is[p][t] && t + 1 <= by && !begins[p][t + 1]) {
                    return NONE;
                }
                worth += begins[p][t] && !is[p][t] && !air.shut(p, t) ? s.pieces.get(p).room : 0;
                worth += is[p][t] && t < by ? wide(p, made()) : 0;
            }
        }
        for (Way w : s.ways) {
            for (int t = 0; t <= by; t++) {
                int then = t + w.minutes * s.walk;
                worth += then <= by && is[w.a][t] && !begins[w.b][then] ? w.width : 0;
                worth += then <= by && is[w.b][t] && !begins[w.a][then] ? w.width : 0;
            }
        }
        return worth;
    }

    // ---- doors, turns

    int fewest(int plan, int by, int fires) {
        sure(in(plan, 0, 3) && in(by, 0, 20) && in(fires, 0, 31));
        for (int f = 0; f < 4; f++) {
            sure((fires >> f & 1) == 0 || f < s.fires.size());
        }
        int best = NONE;
        long bestKey = Long.MAX_VALUE;
        for (int set = 0; set < 1 << s.doors.size(); set++) {
            long cost = 0;
            for (int d = 0; d < s.doors.size(); d++) {
                cost += (set >> d & 1) == 1 ? s.doors.get(d).cost : 0;
            }
            long key = (Integer.bitCount(set) * 100000L + cost) * 100 + set;
            if ((set & made()) != 0 || key > bestKey) {
                continue;
            }
            boolean all = true;
            for (int f = 0; f <= 4 && all; f++) {
                if ((fires >> f & 1) == 1) {
                    Air air = new Air(plan, plan, 0, f == 4 ? NONE : f);
                    all = new Crowd(air, by, s.walk, made() | set).out == people();
                }
            }
            if (all) {
                best = set;
                bestKey = key;
            }
        }
        return best;
    }

    private boolean like(int plan, int minute, int a, int b) {
        Air one = new Air(plan, plan, 0, a);
        Air two = new Air(plan, plan, 0, b);
        for (int t = 0; t <= minute - s.lag && t <= 20; t++) {
            for (int p = 0; p < s.pieces.size(); p++) {
                if ((s.gauges >> p & 1) == 1 && one.marked(p, t) != two.marked(p, t)) {
                    return false;
                }
            }
        }
        return true;
    }

    boolean alike(int plan, int minute, int a, int b) {
        fireOrNone(a);
        fireOrNone(b);
        sure(in(plan, 0, 3) && in(minute, 0, 20));
        return like(plan, minute, a, b);
    }

    private int regretOf(int first, int other, int k, int fire, int by) {
        int most = 0;
        for (int plan = 0; plan < 4; plan++) {
            most = Math.max(most, outBy(plan, plan, 5, fire, by));
        }
        return most - outBy(first, other, k, fire, by);
    }

    int regret(int first, int other, int k, int fire, int by) {
        fireOrNone(fire);
        course(first, other, k);
        sure(in(by, 0, 20));
        return regretOf(first, other, k, fire, by);
    }

    /** For each fire the plan to which the turn goes, and behind them its regret. */
    private int[] turnOf(int plan, int k, int by) {
        int many = s.fires.size();
        int[] answer = new int[many + 1];
        answer[many] = Integer.MIN_VALUE;
        int[][] regrets = new int[many][4];
        for (int f = 0; f < many; f++) {
            for (int q = 0; q < 4; q++) {
                regrets[f][q] = regretOf(plan, q, k, f, by);
            }
        }
        for (int f = 0; f < many; f++) {
            int least = Integer.MAX_VALUE;
            for (int q = 0; q < 4; q++) {
                int greatest = Integer.MIN_VALUE;
                for (int g = 0; g < many; g++) {
                    if (like(plan, k, f, g)) {
                        greatest = Math.max(greatest, regrets[g][q]);
                    }
                }
                if (greatest < least) {
                    least = greatest;
                    answer[f] = q;
                }
            }
            answer[many] = Math.max(answer[many], least);
        }
        return answer;
    }

    private void someFire() {
        if (s.fires.isEmpty()) {
            throw new IllegalStateException();
        }
    }

    int turn(int plan, int k, int by) {
        someFire();
        sure(in(plan, 0, 3) && in(k, 0, 21) && in(by, 0, 20));
        return turnOf(plan, k, by)[s.fires.size()];
    }

    int turnTo(int plan, int k, int by, int fire) {
        there(fire, s.fires);
        sure(in(plan, 0, 3) && in(k, 0, 21) && in(by, 0, 20));
        return turnOf(plan, k, by)[fire];
    }

    int best(int k, int by) {
        someFire();
        sure(in(k, 0, 21) && in(by, 0, 20));
        int best = 0;
        for (int plan = 1; plan < 4; plan++) {
            if (turnOf(plan, k, by)[s.fires.size()] < turnOf(best, k, by)[s.fires.size()]) {
                best = plan;
            }
        }
        return best;
    }

    // ---- crews, drills

    /** All (piece, air used) in which a crew can be in each minute, from those told. */
    private List<TreeSet<Integer>> goOn(Air air, List<TreeSet<Integer>> at, int most) {
        for (int t = 0; t <= 20; t++) {
            for (int state : at.get(t)) {
                int p = state / 1000;
                int used = state % 1000;
                come(air, at, t + 1, p, used + 1, most);
                for (Way w : s.ways) {
                    if (w.a == p || w.b == p) {
                        come(air, at, t + w.minutes, w.a == p ? w.b : w.a, used + w.minutes, most);
                    }
                }
            }
        }
        return at;
    }

    private void come(Air air, List<TreeSet<Integer>> at, int t, int p, int used, int most) {
        if (t <= 20) {
            int all = used + (air.shut(p, t) ? 2 : 0);
            if (all <= most) {
                at.get(t).add(p * 1000 + all);
            }
        }
    }

    private static List<TreeSet<Integer>> nowhere() {
        List<TreeSet<Integer>> at = new ArrayList<>();
        for (int t = 0; t <= 20; t++) {
            at.add(new TreeSet<>());
        }
        return at;
    }

    int reach(int first, int other, int k, int fire, int piece, int air) {
        fireOrNone(fire);
        there(piece, s.pieces);
        course(first, other, k);
        sure(in(air, 0, 200));
        Air smoke = new Air(first, other, k, fire);
        List<TreeSet<Integer>> at = nowhere();
        for (int p = 0; p < s.pieces.size(); p++) {
            if (s.pieces.get(p).out > 0) {
                at.get(0).add(p * 1000);
            }
        }
        goOn(smoke, at, air);
        for (int t = 0; t <= 20; t++) {
            List<TreeSet<Integer>> from = nowhere();
            for (int state : at.get(t)) {
                if (state / 1000 == piece) {
                    from.get(t).add(state);
                }
            }
            for (TreeSet<Integer> states : goOn(smoke, from, air)) {
                for (int state : states) {
                    if (s.pieces.get(state / 1000).out > 0) {
                        return t;
                    }
                }
            }
        }
        return NONE;
    }

    int drill(int by, int people) {
        sure(in(by, 0, 20) && in(people, 0, 600));
        if (s.drills.size() == 10) {
            return NONE;
        }
        act(t -> t.drills.add(new Drill(by, people)));
        return s.drills.size() - 1;
    }

    int fit() {
        int set = 0;
        for (int walk = 1; walk <= 3; walk++) {
            boolean fits = true;
            for (Drill d : s.drills) {
                fits &= new Crowd(new Air(0, 0, 0, NONE), d.by, walk, made()).out >= d.people;
            }
            set += fits ? 1 << (walk - 1) : 0;
        }
        return set;
    }

    // ---- one alone, readings, acts

    /** A way out: the dose, the minute in which it is out, what is done each time, where it is in each minute. */
    private static final class WayOut {
        long dose;
        int out;
        final List<Integer> deeds = new ArrayList<>();
        final int[] where = new int[21];

        WayOut() {
            Arrays.fill(where, NONE);
        }

        /** Deed 0: out, 1: stay, 2 and more: ways. */
        WayOut behind(int deed, int piece, int minute, long mixed) {
            WayOut more = new WayOut();
            more.dose = dose + mixed;
            more.out = out;
            more.deeds.add(deed);
            more.deeds.addAll(deeds);
            System.arraycopy(where, 0, more.where, 0, 21);
            more.where[minute] = piece;
            return more;
        }

        boolean isBefore(WayOut o) {
            if (dose != o.dose || out != o.out) {
                return dose < o.dose || dose == o.dose && out < o.out;
            }
            for (int i = 0; i < Math.min(deeds.size(), o.deeds.size()); i++) {
                if (!deeds.get(i).equals(o.deeds.get(i))) {
                    return deeds.get(i) < o.deeds.get(i);
                }
            }
            return false;
        }
    }

    private static WayOut better(WayOut a, WayOut b) {
        return a == null || b != null && b.isBefore(a) ? b : a;
    }

    private WayOut wayOut(int first, int other, int k, int fire, int piece, int start) {
        fireOrNone(fire);
        there(piece, s.pieces);
        course(first, other, k);
        sure(in(start, 0, 20));
        Air air = new Air(first, other, k, fire);
        WayOut[][] best = new WayOut[21][s.pieces.size()];
        for (int t = 20; t >= 0; t--) {
            for (int p = 0; p < s.pieces.size(); p++) {
                if (air.shut(p, t)) {
                    continue;
                }
                long mixed = air.mixed[t][p];
                if (t <= 19 && wide(p, made()) > 0) {
                    WayOut now = new WayOut();
                    now.out = t + 1;
                    best[t][p] = better(best[t][p], now.behind(0, p, t, mixed));
                }
                if (t <= 19 && best[t + 1][p] != null) {
                    best[t][p] = better(best[t][p], best[t + 1][p].behind(1, p, t, mixed));
                }
                for (int w = 0; w < s.ways.size(); w++) {
                    Way way = s.ways.get(w);
                    int then = t + way.minutes * s.walk;
                    int end = way.a == p ? way.b : way.b == p ? way.a : NONE;
                    if (end != NONE && then <= 20 && best[then][end] != null) {
                        best[t][p] = better(best[t][p], best[then][end].behind(2 + w, p, t, mixed));
                    }
                }
            }
        }
        return best[start][piece];
    }

    long dose(int first, int other, int k, int fire, int piece, int start) {
        WayOut way = wayOut(first, other, k, fire, piece, start);
        return way == null ? NONE : way.dose;
    }

    int outAt(int first, int other, int k, int fire, int piece, int start) {
        WayOut way = wayOut(first, other, k, fire, piece, start);
        return way == null ? NONE : way.out;
    }

    int whereAt(int first, int other, int k, int fire, int piece, int start, int minute) {
        WayOut way = wayOut(first, other, k, fire, piece, start);
        sure(in(minute, 0, 20));
        return way == null ? NONE : way.where[minute];
    }

    int reading(int piece, int minute, boolean is) {
        there(piece, s.pieces);
        sure(in(minute, 0, 20));
        if (s.readings.size() == 40) {
            return NONE;
        }
        act(t -> t.readings.add(new Reading(piece, minute, is)));
        return s.readings.size() - 1;
    }

    private boolean fitsAll(Air air) {
        for (Reading r : s.readings) {
            if (air.marked(r.piece, r.minute) != r.is) {
                return false;
            }
        }
        return true;
    }

    int fits(int plan) {
        sure(in(plan, 0, 3));
        int set = 0;
        for (int f = 0; f < s.fires.size(); f++) {
            set += fitsAll(new Air(plan, plan, 0, f)) ? 1 << f : 0;
        }
        return set + (fitsAll(new Air(plan, plan, 0, NONE)) ? 16 : 0);
    }

    int next(int plan) {
        int fits = fits(plan);
        if (Integer.bitCount(fits) < 2 || s.gauges == 0) {
            return NONE;
        }
        int best = NONE;
        int least = Integer.MAX_VALUE;
        for (int t = 0; t <= 20; t++) {
            for (int p = 0; p < s.pieces.size(); p++) {
                if ((s.gauges >> p & 1) == 0) {
                    continue;
                }
                int with = 0;
                int without = 0;
                for (int f = 0; f <= 4; f++) {
                    if ((fits >> f & 1) == 1) {
                        boolean marked = new Air(plan, plan, 0, f == 4 ? NONE : f).marked(p, t);
                        with += marked ? 1 : 0;
                        without += marked ? 0 : 1;
                    }
                }
                if (Math.max(with, without) < least) {
                    least = Math.max(with, without);
                    best = 8 * t + p;
                }
            }
        }
        return best;
    }

    boolean undo() {
        if (mayBeTakenBack == 0) {
            return false;
        }
        mayBeTakenBack--;
        takenBack.add(acts.remove(acts.size() - 1));
        goThroughAnew();
        return true;
    }

    boolean redo() {
        if (takenBack.isEmpty()) {
            return false;
        }
        mayBeTakenBack++;
        acts.add(takenBack.remove(takenBack.size() - 1));
        goThroughAnew();
        return true;
    }

    // ---- rows

    private static void rowThere(int row) {
        if (!in(row, 0, 3)) {
            throw new NoSuchElementException();
        }
    }

    void row(int row, int sort, int many) {
        rowThere(row);
        sure(in(sort, 0, 3) && in(many, 0, 30));
        rows[row] = new long[many];
        sorts[row] = sort;
    }

    private long cut(int row, long v) {
        int away = 64 - (8 << sorts[row]);
        return v << away >> away;
    }

    long write(int row, int place, long v) {
        rowThere(row);
        if (rows[row] == null) {
            throw new IllegalStateException();
        }
        if (!in(place, 0, rows[row].length - 1)) {
            throw new IndexOutOfBoundsException();
        }
        return rows[row][place] = cut(row, v);
    }

    int lay(int first, int other, int k, int fire, int by, int row) {
        fireOrNone(fire);
        rowThere(row);
        course(first, other, k);
        sure(in(by, 0, 20));
        if (rows[row] == null) {
            throw new IllegalStateException();
        }
        if (rows[row].length < by + 1) {
            throw new IndexOutOfBoundsException();
        }
        Crowd crowd = new Crowd(new Air(first, other, k, fire), by, s.walk, made());
        for (int t = 0; t <= by; t++) {
            rows[row][t] = cut(row, crowd.sideAt(t));
        }
        return by + 1;
    }

    int count(int what) {
        int[] counts = {s.pieces.size(), s.ways.size(), s.fires.size(), s.fans.size(), s.told.size(), s.groups.size(),
            people(), s.doors.size(), Integer.bitCount(made()), s.drills.size(), s.readings.size(), mayBeTakenBack,
            takenBack.size()};
        return in(what, 0, counts.length - 1) ? counts[what] : NONE;
    }
}
