import java.lang.reflect.InvocationTargetException;
import java.lang.reflect.Method;
import java.util.ArrayList;
import java.util.List;
import java.util.function.Supplier;

/**
 * Each number that a call takes, from the last one that may be to the first that may not, both ways; that a refused
 * call changes nothing; and that of several throws the one comes that is told first.
 *
 * <p>The table has a line for each call. A number stands as it is if it isn't asked; else as value:kind, where the
 * kind tells from where to where it may be (1..200, or what there is of a sort) and so what is thrown else.
 */
public final class LimitsTest {
    private static final String[] TABLE = {
        "piece 10:1..200 1:0..40",
        "way 0:piece 1 1 5 0",
        "way 1 0:piece 1 5 0",
        "way 0 1 2:1..4 5:1..40 0:-8..8",
        "water 0:piece 5:0..21",
        "fire 0:piece 3:0..20 21:4..21 10:0..100000 10:0..100000 10:0..100000",
        "fire 0:piece 0 1:1..21 10 10 10",
        "fire 0:piece 20 21:21..21 10 10 10",
        "fan 0:way 1:1..6 5:1..1000000 1:pieces",
        "set 1:plan 0:fan 7:minute 0:-1..1",
        "eyes 4:0..1000000",
        "group 0:piece 5:1..60 3:minute",
        "walk 2:1..3",
        "door 0:piece 5:1..40 7:1..1000",
        "make 0:door 1",
        "gauges 1:pieces 5:1..1000000 1:0..5",
        "air 0:plan 1:plan 5:k 0:fireOrNone 0:way 9:minute",
        "smoke 0:plan 1:plan 5:k 0:fireOrNone 0:piece 9:minute 1",
        "given 0:plan 1:plan 5:k 0:fireOrNone 9:minute 1:0..3",
        "lost 0:plan 1:plan 5:k 0:fireOrNone 0:fan",
        "shut 0:plan 1:plan 5:k 0:fireOrNone 0:piece 9:minute",
        "out 0:plan 1:plan 5:k 0:fireOrNone 9:minute",
        "all 0:plan 1:plan 5:k 0:fireOrNone",
        "side 0:plan 1:plan 5:k 0:fireOrNone 20:minute 0:minute",
        "side 0 1 5 0 7 7:0..7",
        "side 0 1 5 0 0 0:0..0",
        "worth 0:plan 1:plan 5:k 0:fireOrNone 9:minute 3:row",
        "fewest 0:plan 9:minute 16",
        "alike 0:plan 9:minute 0:fireOrNone 1:fireOrNone",
        "regret 0:plan 1:plan 5:k 0:fireOrNone 9:minute",
        "turn 0:plan 5:k 9:minute",
        "turnTo 0:plan 5:k 9:minute 0:fire",
        "best 5:k 9:minute",
        "reach 0:plan 1:plan 5:k 0:fireOrNone 0:piece 30:0..200",
        "drill 9:minute 7:0..600",
        "dose 0:plan 1:plan 5:k 0:fireOrNone 0:piece 9:minute",
        "outAt 0:plan 1:plan 5:k 0:fireOrNone 0:piece 9:minute",
        "whereAt 0:plan 1:plan 5:k 0:fireOrNone 0:piece 9:minute 12:minute",
        "reading 0:piece 9:minute 1",
        "fits 0:plan",
        "next 0:plan",
        "row 0:row 1:0..3 25:0..30",
        "write 0:row 3 5",
        "write 0 3:0..20 5",
        "write 3 3:0..29 5",
        "lay 0:plan 1:plan 5:k 0:fireOrNone 9:minute 3:row",
    };

    /** One number of a call. */
    private record Arg(long value, long least, long most, Class<? extends RuntimeException> thrown) { }

    private static final class Line {
        final String text;
        final Method call;
        final List<Arg> args = new ArrayList<>();

        Line(String text, SmokeTubes house) {
            this.text = text;
            String[] words = text.split(" ");
            call = named(words[0]);
            for (int i = 1; i < words.length; i++) {
                args.add(arg(words[0], words[i], house));
            }
            Check.due("as many numbers: " + text, call.getParameterCount(), args.size());
        }

        /** What the call throws with these values in place of its own ones; null if nothing. */
        Class<?> thrown(SmokeTubes x, int at, long value, int other, long otherValue) {
            Object[] given = new Object[args.size()];
            for (int i = 0; i < given.length; i++) {
                long number = i == at ? value : i == other ? otherValue : args.get(i).value;
                Class<?> type = call.getParameterTypes()[i];
                given[i] = type == boolean.class ? (Object) (number != 0) : type == long.class ? (Object) number
                    : (Object) (int) number;
            }
            try {
                call.invoke(x, given);
                return null;
            } catch (InvocationTargetException e) {
                return e.getCause().getClass();
            } catch (IllegalAccessException e) {
                throw new IllegalStateException(e);
            }
        }
    }

    private static Method named(String name) {
        for (Method m : SmokeTubes.class.getDeclaredMethods()) {
            if (m.getName().equals(name)) {
                return m;
            }
        }
        throw new IllegalStateException(name);
    }

    private static Arg arg(String call, String word, SmokeTubes x) {
        int colon = word.indexOf(':');
        if (colon < 0) {
            return new Arg(Long.parseLong(word), 0, 0, null);
        }
        long value = Long.parseLong(word.substring(0, colon));
        String kind = word.substring(colon + 1);
        switch (kind) {
            case "piece": return new Arg(value, 0, x.count(0) - 1, Check.NO_SUCH);
            case "way": return new Arg(value, 0, x.count(1) - 1, Check.NO_SUCH);
            case "fire": return new Arg(value, 0, x.count(2) - 1, Check.NO_SUCH);
            case "fireOrNone": return new Arg(value, -1, x.count(2) - 1, Check.NO_SUCH);
            case "fan": return new Arg(value, 0, x.count(3) - 1, Check.NO_SUCH);
            case "door": return new Arg(value, 0, x.count(7) - 1, Check.NO_SUCH);
            case "row": return new Arg(value, 0, 3, Check.NO_SUCH);
            case "pieces": return new Arg(value, 0, (1 << x.count(0)) - 1, Check.NOT_SO);
            case "plan": return new Arg(value, 0, 3, Check.NOT_SO);
            case "minute": return new Arg(value, 0, 20, Check.NOT_SO);
            case "k": return new Arg(value, 0, 21, Check.NOT_SO);
            default:
                int dots = kind.indexOf("..");
                return new Arg(value, Long.parseLong(kind.substring(0, dots)), Long.parseLong(kind.substring(dots + 2)),
                    call.equals("write") ? Check.PLACE : Check.NOT_SO);
        }
    }

    private static long[] beyond(Arg arg) {
        return new long[] {arg.least - 1, arg.most + 1, Integer.MIN_VALUE, Integer.MAX_VALUE};
    }

    private static void is(String what, Class<?> got, Class<?> want) {
        Check.yes(what + ": threw " + got + ", due is " + want, got == want);
    }

    private static void lastThatMayBe(Line line, Supplier<SmokeTubes> house) {
        for (int at = 0; at < line.args.size(); at++) {
            Arg arg = line.args.get(at);
            if (arg.thrown != null && arg.most >= arg.least) {
                is(line.text + ", least of " + at, line.thrown(house.get(), at, arg.least, -1, 0), null);
                is(line.text + ", most of " + at, line.thrown(house.get(), at, arg.most, -1, 0), null);
            }
        }
    }

    private static void firstThatMayNot(Line line, SmokeTubes x) {
        for (int at = 0; at < line.args.size(); at++) {
            Arg arg = line.args.get(at);
            for (long value : arg.thrown == null ? new long[0] : beyond(arg)) {
                is(line.text + ", " + value + " at " + at, line.thrown(x, at, value, -1, 0), arg.thrown);
            }
        }
    }

    /** Of two throws: no such one ahead of that it can't be so, that ahead of that there is no such place. */
    private static void toldFirst(Line line, SmokeTubes x) {
        List<Class<?>> order = List.of(Check.NO_SUCH, Check.NOT_SO, Check.PLACE);
        for (int at = 0; at < line.args.size(); at++) {
            for (int other = 0; other < line.args.size(); other++) {
                Arg a = line.args.get(at);
                Arg b = line.args.get(other);
                if (a.thrown != null && b.thrown != null && order.indexOf(a.thrown) < order.indexOf(b.thrown)) {
                    Class<?> got = line.thrown(x, at, a.most + 1, other, b.most + 1);
                    is(line.text + ", both " + at + " and " + other, got, a.thrown);
                }
            }
        }
    }

    private static void check(String name, Supplier<SmokeTubes> house) {
        for (String text : TABLE) {
            SmokeTubes x = house.get();
            Line line = new Line(text, x);
            firstThatMayNot(line, x);
            toldFirst(line, x);
            Look.same(name + ", refused: " + text, x, house.get());
            lastThatMayBe(line, house);
        }
    }

    /** Where there is nothing yet, each number of something is refused, and 0 is. */
    private static void nothingYet() {
        SmokeTubes x = new SmokeTubes();
        Check.due("3 no piece yet", () -> x.way(0, 0, 0, 0, 9), Check.NO_SUCH);
        Check.due("4 no piece yet", () -> x.water(0, -1), Check.NO_SUCH);
        Check.due("5 no piece yet", () -> x.fire(0, 0, 0, 0, 0, 0), Check.NO_SUCH);
        Check.due("6 no way yet", () -> x.fan(0, 0, 0, 1), Check.NO_SUCH);
        Check.due("6 no way yet, NONE", () -> x.fan(-1, 0, 0, 1), Check.NO_SUCH);
        Check.due("7 no fan yet", () -> x.set(0, 0, 21, 0), Check.NO_SUCH);
        Check.due("9 no piece yet", () -> x.group(0, 0, 0), Check.NO_SUCH);
        Check.due("11 no piece yet", () -> x.door(0, 0, 0), Check.NO_SUCH);
        Check.due("12 no door yet", () -> x.make(0, true), Check.NO_SUCH);
        Check.due("13 no piece yet for a gauge", () -> x.gauges(1, 1, 1), Check.NOT_SO);
        Check.due("14 no way yet", () -> x.air(0, 0, 0, -1, 0, 0), Check.NO_SUCH);
        Check.due("15 no piece yet", () -> x.smoke(0, 0, 0, -1, 0, 0, true), Check.NO_SUCH);
        Check.due("16 no fire yet", () -> x.given(0, 0, 0, 0, 0, 0), Check.NO_SUCH);
        Check.due("17 no fan yet", () -> x.lost(0, 0, 0, -1, 0), Check.NO_SUCH);
        Check.due("18 no piece yet", () -> x.shut(0, 0, 0, -1, 0, 0), Check.NO_SUCH);
        Check.due("19 no fire yet", () -> x.out(0, 0, 0, 0, 0), Check.NO_SUCH);
        Check.due("20 no fire yet", () -> x.all(0, 0, 0, 0), Check.NO_SUCH);
        Check.due("21 no fire yet", () -> x.side(0, 0, 0, 0, 0, 0), Check.NO_SUCH);
        Check.due("22 no fire yet", () -> x.worth(0, 0, 0, 0, 0, 0), Check.NO_SUCH);
        Check.due("23 no fire yet", () -> x.fewest(0, 0, 1), Check.NOT_SO);
        Check.due("24 no fire yet", () -> x.alike(0, 0, -1, 0), Check.NO_SUCH);
        Check.due("25 no fire yet", () -> x.regret(0, 0, 0, 0, 0), Check.NO_SUCH);
        Check.due("27 no fire yet", () -> x.turnTo(0, 0, 0, 0), Check.NO_SUCH);
        Check.due("29 no piece yet", () -> x.reach(0, 0, 0, -1, 0, 0), Check.NO_SUCH);
        Check.due("32 no piece yet", () -> x.dose(0, 0, 0, -1, 0, 0), Check.NO_SUCH);
        Check.due("33 no piece yet", () -> x.outAt(0, 0, 0, -1, 0, 0), Check.NO_SUCH);
        Check.due("34 no piece yet", () -> x.whereAt(0, 0, 0, -1, 0, 0, 0), Check.NO_SUCH);
        Check.due("35 no piece yet", () -> x.reading(0, 0, true), Check.NO_SUCH);
        Check.due("42 no fire yet", () -> x.lay(0, 0, 0, 0, 0, 0), Check.NO_SUCH);
        Look.same("a new one, refused", x, new SmokeTubes());
    }

    /** What can be asked where there is nothing yet. */
    private static void nothingIsAnswered() {
        SmokeTubes x = new SmokeTubes();
        Check.due("13 a set of no pieces, where there are none", () -> x.gauges(0, 1, 1), null);
        for (int what = 0; what < 4; what++) {
            Check.due("16 nothing at all", x.given(0, 0, 0, -1, 20, what), 0);
        }
        Check.due("19 nobody", x.out(0, 0, 0, -1, 20), 0);
        Check.due("20 nobody is out by 0", x.all(0, 0, 0, -1), 0);
        Check.due("21 nothing in it", x.side(0, 0, 0, -1, 20, 20), 0);
        x.row(0, 3, 1);
        x.write(0, 0, -1);
        Check.due("22 no pieces are asked", x.worth(0, 0, 0, -1, 0, 0), 0);
        Check.due("23 none is needed", x.fewest(0, 0, 16), 0);
        Check.due("24 none and none", x.alike(0, 20, -1, -1), true);
        Check.due("25 nobody", x.regret(0, 0, 0, -1, 20), 0);
        Check.due("31 nothing drilled", x.fit(), 7);
        Check.due("36 that none burns", x.fits(3), 16);
        Check.due("37 fewer than two fit", x.next(3), -1);
        Check.due("42 a number of it", x.lay(0, 0, 0, -1, 0, 0), 1);
    }

    /** Both ends are one: it can't be so, behind no such piece, whatever the rest is. */
    private static void bothAreOne() {
        SmokeTubes x = Houses.some();
        for (int piece = 0; piece < 3; piece++) {
            int one = piece;
            Check.due("3 both are one", () -> x.way(one, one, 1, 1, 0), Check.NOT_SO);
        }
        Check.due("3 both are one that there isn't", () -> x.way(3, 3, 1, 1, 0), Check.NO_SUCH);
        Check.due("3 both are NONE", () -> x.way(-1, -1, 1, 1, 0), Check.NO_SUCH);
        Look.same("3 both are one", x, Houses.some());
    }

    /** Sets of fires: of those there are, and 16; 0 is one. */
    private static void setsOfFires() {
        SmokeTubes x = new SmokeTubes();
        x.piece(1, 1);
        for (int fires = 0; fires <= 4; fires++) {
            for (int set = -33; set <= 66; set++) {
                int asked = set;
                boolean may = set >= 0 && (set & ~16) < 1 << fires;
                Check.due("23 set " + set + " of " + fires, () -> x.fewest(0, 20, asked), may ? null : Check.NOT_SO);
            }
            if (fires < 4) {
                x.fire(0, 0, 1, 1, 1, 1);
            }
        }
        Check.due("23 far off", () -> x.fewest(0, 20, Integer.MIN_VALUE), Check.NOT_SO);
        Check.due("23 far off", () -> x.fewest(0, 20, Integer.MAX_VALUE), Check.NOT_SO);
    }

    public static void main(String[] args) {
        check("some", Houses::some);
        check("full", Houses::full);
        nothingYet();
        nothingIsAnswered();
        bothAreOne();
        setsOfFires();
        Check.end("LimitsTest");
    }
}
