/** Edges of section 5 of the document, and of promises 32 to 37: one alone, readings. */
public final class AloneEdgesTest {
    private static final int NONE = SmokeTubes.NONE;

    private static void gone(String what, SmokeTubes x, int piece, int start, long dose, int out) {
        Check.due("32 " + what, x.dose(0, 0, 0, 0, piece, start), dose);
        Check.due("33 " + what, x.outAt(0, 0, 0, 0, piece, start), out);
    }

    private static void where(String what, SmokeTubes x, int piece, int start, int from, int... pieces) {
        for (int i = 0; i < pieces.length; i++) {
            int minute = from + i;
            Check.due("34 " + what + ", in " + minute, x.whereAt(0, 0, 0, 0, piece, start, minute), pieces[i]);
        }
    }

    private static void nowhere(String what, SmokeTubes x, int piece, int start) {
        gone(what, x, piece, start, NONE, NONE);
        for (int minute = 0; minute <= 20; minute++) {
            Check.due("34 " + what + ", in " + minute, x.whereAt(0, 0, 0, 0, piece, start, minute), NONE);
        }
    }

    /** Two pieces without smoke: the fire burns in a third one, by itself. */
    private static SmokeTubes clear(int minutes) {
        SmokeTubes x = new SmokeTubes();
        x.piece(1, 0);
        x.piece(1, 1);
        x.piece(1, 0);
        x.way(0, 1, minutes, 1, 0);
        x.fire(2, 0, 21, 100000, 0, 100000);
        return x;
    }

    /** "in which it is in a MINUTE up to 19: it is out in the next one". */
    private static void upToNineteen() {
        SmokeTubes x = clear(1);
        gone("from the out in 0", x, 1, 0, 0, 1);
        gone("from the out in 19", x, 1, 19, 0, 20);
        where("from the out in 19", x, 1, 19, 18, NONE, 1, NONE);
        nowhere("from the out in 20", x, 1, 20);
        gone("from the other piece in 18", x, 0, 18, 0, 20);
        where("from the other piece in 18", x, 0, 18, 17, NONE, 0, 1, NONE);
        nowhere("from the other piece in 19", x, 0, 19);
        nowhere("from the other piece in 20", x, 0, 20);
    }

    /** "as people do (by WALK ..)": the longest way there may be takes 12 minutes. */
    private static void byWalk() {
        for (int minutes = 1; minutes <= 4; minutes++) {
            for (int walk = 1; walk <= 3; walk++) {
                int takes = minutes * walk;
                SmokeTubes x = clear(minutes);
                x.walk(walk);
                gone("takes " + takes, x, 0, 0, 0, takes + 1);
                gone("just in time: " + takes, x, 0, 19 - takes, 0, 20);
                gone("too late: " + takes, x, 0, 20 - takes, NONE, NONE);
                Check.due("34 there", x.whereAt(0, 0, 0, 0, 0, 0, takes), 1);
                Check.due("34 not there yet", x.whereAt(0, 0, 0, 0, 0, 0, takes - 1), takes == 1 ? 0 : NONE);
                Check.due("34 out", x.whereAt(0, 0, 0, 0, 0, 0, takes + 1), NONE);
            }
        }
    }

    /** "NONE if it is in none (not yet, on a WAY, or out)". */
    private static void inNone() {
        SmokeTubes x = clear(3);
        where("each minute", x, 0, 2, 0, NONE, NONE, 0, NONE, NONE, 1, NONE, NONE);
        Check.due("34 in 20", x.whereAt(0, 0, 0, 0, 0, 2, 20), NONE);
    }

    /** "ROOM and widths don't hinder it", nor do others. */
    private static void whateverOthersDo() {
        SmokeTubes x = clear(1);
        for (int group = 0; group < 10; group++) {
            x.group(group % 2, 60, 0);
        }
        gone("others are there", x, 0, 0, 0, 2);
    }

    /** "a PIECE with an OUT or a DOOR that is MADE". */
    private static void outOrDoor() {
        SmokeTubes x = clear(4);
        x.door(0, 1, 1);
        gone("a door that isn't made", x, 0, 0, 0, 5);
        x.make(0, true);
        gone("a door that is made", x, 0, 0, 0, 1);
        where("a door that is made", x, 0, 0, 0, 0, NONE, NONE);
        x.make(0, false);
        gone("made no more", x, 0, 0, 0, 5);
        where("made no more", x, 0, 0, 0, 0, NONE, NONE, NONE, 1, NONE);
        SmokeTubes none = new SmokeTubes();
        none.piece(1, 0);
        none.fire(0, 0, 1, 0, 0, 0);
        nowhere("no out anywhere", none, 0, 0);
        none.door(0, 1, 1);
        nowhere("a door that isn't made", none, 0, 0);
        none.make(0, true);
        gone("a door alone", none, 0, 0, 0, 1);
        gone("a door alone in 19", none, 0, 19, 0, 20);
        nowhere("a door alone in 20", none, 0, 20);
    }

    /** "is never in a PIECE in a MINUTE in which that is SHUT": where it begins, on its way, where it goes out. */
    private static void neverWhereItIsShut() {
        SmokeTubes x = Houses.stirred(1, 9);
        x.eyes(8);
        Check.due("15 8 mixed", x.smoke(0, 0, 0, 0, 0, 1, false), 8);
        gone("as much as eyes", x, 0, 1, 8, 2);
        x.eyes(7);
        nowhere("shut where it begins", x, 0, 1);
        gone("not yet in 0", x, 0, 0, 0, 1);
        gone("7 in 2: not shut", x, 0, 2, 7, 3);
        x.eyes(0);
        nowhere("from piece 1: shut where it would go out", x, 1, 0);
        SmokeTubes waits = Houses.stirred(1, 9);
        waits.eyes(7);
        gone("it waits in piece 1 while it is shut", waits, 1, 0, 7, 3);
        where("it waits in piece 1", waits, 1, 0, 0, 1, 1, 0, NONE);
    }

    /** "DOSE: what is MIXED in PIECES in the MINUTES in which it is in them, together": the first and the last too. */
    private static void dose() {
        SmokeTubes x = new SmokeTubes();
        x.piece(1, 0);
        x.piece(1, 1);
        x.piece(1, 0);
        x.way(0, 1, 2, 1, 0);
        x.way(2, 0, 1, 1, 6);
        x.fire(0, 0, 1, 7, 0, 7);
        Check.due("15 7 mixed in 1", x.smoke(0, 0, 0, 0, 0, 1, false), 7);
        gone("where it begins", x, 0, 1, 7, 4);
        gone("nothing yet in 0", x, 0, 0, 0, 3);
        gone("piece 2 in 0, piece 0 in 1, on a way in 2, out in 4", x, 2, 0, 7, 4);
        SmokeTubes both = Houses.stirred(1, 18);
        Check.due("15 16 mixed in 1", both.smoke(0, 0, 0, 0, 0, 1, false), 16);
        gone("where it goes out", both, 0, 1, 16, 2);
    }

    /** "the one with the least DOSE; of these that which is out first". */
    private static void leastThenFirst() {
        SmokeTubes x = new SmokeTubes();
        x.piece(1, 0);
        x.piece(1, 1);
        x.piece(1, 1);
        x.piece(1, 0);
        x.way(0, 1, 1, 1, 0);
        x.way(0, 2, 4, 1, 0);
        x.way(3, 1, 1, 1, 6);
        x.fire(1, 0, 1, 2, 0, 2);
        x.fire(3, 0, 1, 0, 0, 0);
        Check.due("15 2 mixed in 1", x.smoke(0, 0, 0, 0, 1, 1, false), 2);
        gone("the far out without any", x, 0, 0, 0, 5);
        where("the far out", x, 0, 0, 0, 0, NONE, NONE, NONE, 2, NONE);
        Check.due("34 no smoke: the near out, asked behind the other fire", x.whereAt(0, 0, 0, 1, 0, 0, 1), 1);
        Check.due("34 the far out again", x.whereAt(0, 0, 0, 0, 0, 0, 1), NONE);
        Check.due("33 no smoke: the near out, asked behind the other fire", x.outAt(0, 0, 0, 1, 0, 0), 2);
        Check.due("33 the far out again", x.outAt(0, 0, 0, 0, 0, 0), 5);
        Check.due("32 no smoke", x.dose(0, 0, 0, 1, 0, 0), 0);
        Check.due("33 no smoke: the near out", x.outAt(0, 0, 0, 1, 0, 0), 2);
        gone("too late for the far out", x, 0, 16, 2, 18);
        gone("just in time for the far out", x, 0, 15, 0, 20);
    }

    /** "of these the first by what it does ..: it goes out, ahead of staying, ahead of going off by a WAY, the lesser one". */
    private static void likeWays() {
        SmokeTubes x = new SmokeTubes();
        for (int piece = 0; piece < 5; piece++) {
            x.piece(1, piece == 4 ? 1 : 0);
        }
        for (int piece = 3; piece >= 1; piece--) {
            x.way(piece, 0, 1, 1, 0);
        }
        for (int piece = 1; piece <= 3; piece++) {
            x.way(4, piece, 1, 1, 0);
        }
        x.fire(0, 0, 1, 0, 0, 0);
        where("way 0 goes to piece 3", x, 0, 0, 0, 0, 3, 4, NONE);
        x.way(0, 4, 2, 1, 0);
        where("way 6 is as good and greater", x, 0, 0, 0, 0, 3, 4, NONE);
        x.way(0, 4, 1, 1, 0);
        where("way 7 is shorter", x, 0, 0, 0, 0, 4, NONE);
        SmokeTubes twin = clear(1);
        twin.way(1, 0, 1, 1, 0);
        where("two ways alike", twin, 0, 0, 0, 0, 1, NONE);
    }

    /** There is least smoke by the out in 19; piece 2 on the way there is no better than staying, which goes first. */
    private static void stays() {
        SmokeTubes x = new SmokeTubes();
        x.piece(1, 0);
        x.piece(1, 1);
        x.piece(1, 0);
        x.piece(1, 0);
        x.way(0, 2, 1, 1, 0);
        x.way(0, 1, 1, 1, 0);
        x.way(2, 1, 1, 1, 0);
        x.way(3, 1, 1, 1, 6);
        x.fire(1, 16, 17, 100, 0, 100);
        x.water(1, 18);
        Check.due("15 mixed in piece 0 in 18", x.smoke(0, 0, 0, 0, 0, 18, false), 2);
        Check.due("15 as much in piece 2", x.smoke(0, 0, 0, 0, 2, 18, false), 2);
        Check.due("15 mixed by the out in 18", x.smoke(0, 0, 0, 0, 1, 18, false), 42);
        Check.due("15 mixed by the out in 19", x.smoke(0, 0, 0, 0, 1, 19, false), 30);
        gone("out in 20", x, 0, 17, 2 + 30, 20);
        where("it stays in 18", x, 0, 17, 17, 0, 0, 1, NONE);
    }

    // ---- readings

    /** "MINUTES 0 to 20"; "that there was as much as MARK, or that there wasn't". */
    private static SmokeTubes burning() {
        SmokeTubes x = new SmokeTubes();
        for (int piece = 0; piece < 8; piece++) {
            x.piece(1, 0);
        }
        x.fire(7, 0, 21, 10, 0, 10);
        x.fire(0, 19, 21, 10, 0, 10);
        return x;
    }

    private static void fits(String what, int piece, int minute, boolean is, int want) {
        SmokeTubes x = burning();
        x.reading(piece, minute, is);
        Check.due("36 " + what, x.fits(0), want);
    }

    private static void readings() {
        Check.due("36 no readings: all fit", burning().fits(3), 1 + 2 + 16);
        fits("nothing in 0", 7, 0, false, 19);
        fits("something in 0 never fits", 7, 0, true, 0);
        fits("10 in 1", 7, 1, true, 1);
        fits("not 10 in 1", 7, 1, false, 18);
        fits("in 20", 0, 20, true, 2);
        fits("not in 20", 0, 20, false, 17);
        fits("in 19 nothing yet", 0, 19, true, 0);
        fits("where nothing comes", 3, 20, true, 0);
        fits("where nothing comes", 3, 20, false, 19);
        SmokeTubes both = burning();
        both.reading(7, 1, true);
        both.reading(7, 1, false);
        Check.due("36 both can't be", both.fits(0), 0);
        both.undo();
        both.reading(7, 1, true);
        Check.due("36 told twice", both.fits(0), 1);
    }

    /** "as much as MARK": by the mark that is now, with a gauge there or without. */
    private static void readingsByMark() {
        SmokeTubes x = burning();
        x.reading(7, 2, true);
        x.gauges(0, 20, 1);
        Check.due("36 20 in 2, as much as mark", x.fits(0), 1);
        x.gauges(0, 21, 1);
        Check.due("36 less than mark", x.fits(0), 0);
        x.gauges(255, 20, 5);
        Check.due("36 with gauges and a lag, the same", x.fits(0), 1);
        x.gauges(0, 1000000, 0);
        Check.due("36 the greatest mark", x.fits(0), 0);
    }

    /** "a set: 1 for FIRE 0 ..; 16: that none burns", of none up to four fires. */
    private static void setsThatFit() {
        SmokeTubes x = new SmokeTubes();
        x.piece(1, 0);
        Check.due("36 no fires", x.fits(0), 16);
        for (int fire = 0; fire < 4; fire++) {
            x.fire(0, 0, 1, 1, 1, 1);
            Check.due("36 fires up to " + fire, x.fits(0), 16 + (2 << fire) - 1);
        }
        x.reading(0, 1, true);
        Check.due("36 not that none burns", x.fits(0), 15);
        x.reading(0, 0, true);
        Check.due("36 nothing", x.fits(0), 0);
    }

    /** Smoke in two pieces at once: each is looked at by itself. */
    private static void readingsOfTwoPieces() {
        SmokeTubes x = new SmokeTubes();
        x.piece(1, 0);
        x.piece(1, 0);
        x.way(0, 1, 1, 1, 0);
        x.fire(0, 0, 1, 80, 0, 80);
        x.fire(1, 0, 1, 7, 0, 7);
        x.reading(0, 1, true);
        Check.due("36 piece 0", x.fits(0), 1);
        x.reading(1, 1, true);
        Check.due("36 both", x.fits(0), 1);
        x.undo();
        x.undo();
        x.reading(1, 1, true);
        Check.due("36 piece 1", x.fits(0), 3);
        x.gauges(1, 1, 0);
        Check.due("37 piece 0 tells them apart", x.next(0), 8);
    }

    /** Each of forty readings counts. */
    private static void fortyReadings() {
        SmokeTubes x = burning();
        for (int reading = 0; reading < 39; reading++) {
            x.reading(7, 0, false);
        }
        Check.due("35 the fortieth", x.reading(7, 20, true), 39);
        Check.due("36 the fortieth counts", x.fits(0), 1);
        Check.due("35 the forty-first", x.reading(7, 20, false), NONE);
        Check.due("36 the forty-first doesn't", x.fits(0), 1);
    }

    /** "NONE if fewer than two FIT, or there are no GAUGES". */
    private static void nothingToAsk() {
        SmokeTubes x = burning();
        Check.due("37 no gauges", x.next(0), NONE);
        x.gauges(128, 1, 1);
        Check.due("37 three fit", x.next(0), 8 + 7);
        x.reading(7, 1, false);
        Check.due("37 two fit, which the gauge doesn't tell apart: the earliest", x.next(0), 7);
        x.gauges(129, 1, 1);
        Check.due("37 two fit", x.next(0), 8 * 20);
        x.reading(0, 20, true);
        Check.due("37 one fits", x.next(0), NONE);
        x.reading(0, 0, true);
        Check.due("37 none fits", x.next(0), NONE);
        SmokeTubes none = new SmokeTubes();
        none.piece(1, 0);
        none.gauges(1, 1, 1);
        Check.due("37 no fires: that none burns alone fits", none.next(0), NONE);
        none.fire(0, 0, 1, 0, 0, 0);
        Check.due("37 two fit, both without smoke", none.next(0), 0);
    }

    /** "the greater number .. is least; of like ones the earlier MINUTE, then the lesser PIECE"; up to 167. */
    private static void askedNext() {
        SmokeTubes last = new SmokeTubes();
        for (int piece = 0; piece < 8; piece++) {
            last.piece(1, 0);
        }
        last.fire(7, 19, 21, 1, 0, 1);
        last.gauges(255, 1, 0);
        Check.due("37 the last minute and the last piece", last.next(0), 167);
        last.fire(6, 19, 21, 1, 0, 1);
        Check.due("37 one of three in either: the lesser piece", last.next(0), 166);
        last.fire(7, 18, 21, 1, 0, 1);
        Check.due("37 one of four in 19, two of four in 20", last.next(0), 167);
        last.fire(0, 0, 21, 1, 0, 1);
        Check.due("37 two of five against one of five", last.next(0), 167);
        SmokeTubes even = new SmokeTubes();
        even.piece(1, 0);
        even.piece(1, 0);
        even.fire(1, 3, 21, 5, 0, 5);
        even.fire(0, 4, 21, 5, 0, 5);
        even.fire(0, 0, 21, 5, 0, 5);
        even.gauges(3, 5, 0);
        Check.due("37 two of four in piece 0 from 5 on", even.next(0), 8 * 5);
        even.gauges(2, 5, 0);
        Check.due("37 a gauge in piece 1 alone", even.next(0), 8 * 4 + 1);
        even.gauges(3, 6, 0);
        Check.due("37 another mark, a minute later", even.next(0), 8 * 6);
        even.gauges(3, 5, 5);
        Check.due("37 the lag counts for nothing here", even.next(0), 8 * 5);
    }

    public static void main(String[] args) {
        upToNineteen();
        byWalk();
        inNone();
        whateverOthersDo();
        outOrDoor();
        neverWhereItIsShut();
        dose();
        leastThenFirst();
        likeWays();
        stays();
        readings();
        readingsByMark();
        setsThatFit();
        readingsOfTwoPieces();
        fortyReadings();
        nothingToAsk();
        askedNext();
        Check.end("AloneEdgesTest");
    }
}
