/** Promises 12 to 21: end, matches, mother, mothers, may, tells, near, years, image, restore. */
public final class AskTest {
    private static final String TWO = "full 4;plain 0 4 0;plain 1 0 4;likes 0 1;likes 1 0;";
    private static final String ODD = "full 3;plain 0 3 0;plain 1 0 3;likes 0 1;likes 1 0;";
    private static final int[] NO_WHATS = {-1, 2, Integer.MIN_VALUE, Integer.MAX_VALUE};
    private static final int[] NO_LAMPS = {-1, 2, 6, 31, 32, Integer.MIN_VALUE, Integer.MAX_VALUE};

    private AskTest() {
    }

    public static void main(String[] args) {
        end();
        matches();
        mother();
        mothers();
        mothersRefused();
        may();
        tells();
        near();
        years();
        images();
        Check.finish("AskTest");
    }

    private static void ends(String text, int nights, int round, int alone) {
        LampValley x = Check.told(text);
        x.nights(nights);
        Check.same("end(0) of " + text, x.end(0), round);
        Check.same("end(1) of " + text, x.end(1), alone);
        Check.same("nights by end of " + text, x.count(7), nights);
    }

    private static void end() {
        ends("", 0, 2, 0);
        ends("full 9;easter 7;plain 0 9 0;plain 1 0 0;plain 0 0 9;", 7, 2, 7);
        // EASTER doesn't end it: these marry in NIGHT 29.
        ends("full 30;easter 1;plain 0 30 0;plain 1 0 30;plain 0 0 0;likes 0 1;", 1, 2, 4);
        // Three NIGHTS bring a drunk one round; an even number is asked for.
        ends("full 4;drunk 0 2 1;plain 1 0 0;", 1, 6, 3);
        ends(ODD, 0, 2, 3);
        // FOG of NIGHT 99 leads the first one away: only the dusk of NIGHT 101 comes again.
        ends("full 6;step 3;plain 0 0 6;plain 0 0 6;plain 0 6 0;likes 0 1;fog 99 0 1;", 0, 2, 7);
        // As the Model has it, too: a long round of all kinds.
        ends("full 19;step 3;plain 0 12 3;shy 0 4 7;bold 0 9 10;drunk 0 14 0;drunk 0 0 10;drunk 0 1 7;"
                + "likes 0 3;likes 1 2;likes 2 5;likes 3 4;likes 4 0;likes 5 1;", 5, 36, 63);
        LampValley x = Check.told(TWO);
        for (int what : NO_WHATS) {
            Check.noSuch("end(" + what + ")", () -> x.end(what));
        }
    }

    private static void matched(String text, int... due) {
        LampValley x = Check.told(text);
        int[] got = {x.matches(0), x.matches(1), x.matches(2), x.matches(3)};
        Check.row("matches of " + text, got, due);
        Check.same("nights by matches of " + text, x.count(7) + x.count(8), 0);
    }

    private static void matches() {
        matched("full 8;step 3;easter 2;plain 0 8 0;plain 1 0 0;likes 0 1;", 0, 0, 0, 0);
        matched("full 8;step 3;easter 3;plain 0 8 0;plain 1 0 0;likes 0 1;", 1, 0, 1, 0);
        matched("full 8;step 3;easter 4;plain 0 8 0;plain 1 0 0;likes 0 1;", 1, 1, 1, 1);
        matched("full 8;step 1;easter 8;plain 0 8 0;plain 1 0 0;likes 0 1;", 1, 1, 1, 1);
        matched("full 8;step 3;easter 2;bold 0 8 0;plain 1 0 0;likes 0 1;", 1, 1, 1, 1);
        matched("full 8;plain 0 8 0;plain 1 0 8;likes 0 1;", 1, 1, 0, 0);
        // (c) ends where green's turn comes, at 6 0 2.
        matched("full 8;near 6;plain 0 8 0;plain 1 0 3;likes 0 1;", 1, 1, 1, 1);
        matched("full 8;near 5;plain 0 8 0;plain 1 0 3;likes 0 1;", 1, 1, 0, 0);
        matched("full 4;easter 1;drunk 0 3 0;plain 1 2 1;", 1, 1, 0, 0);
        matched("full 4;easter 1;drunk 0 0 3;plain 1 0 2;", 1, 1, 1, 1);
        matched("full 4;easter 1;drunk 0 0 0;plain 1 1 0;", 1, 1, 1, 1);
        LampValley x = Check.told("full 4;easter 5;plain 0 4 0;plain 1 4 0;plain 0 3 0;plain 1 0 0;likes 2 3;");
        x.nights(1);
        Check.same("married now", x.count(8), 1);
        Check.same("those too", x.matches(2), 2);
        x.nights(4);
        Check.same("at easter", x.matches(3), 2);
        for (int laws : new int[] {-1, 4, Integer.MIN_VALUE, Integer.MAX_VALUE}) {
            Check.illegal("matches(" + laws + ")", () -> x.matches(laws));
        }
    }

    private static void mothered(LampValley x, int lamp, int drop, int night) {
        Check.same("mother(" + lamp + ", 0)", x.mother(lamp, 0), drop);
        Check.same("mother(" + lamp + ", 1)", x.mother(lamp, 1), night);
    }

    private static void mother() {
        LampValley x = Check.told(TWO);
        mothered(x, 0, -1, 1);
        mothered(x, 1, -1, 1);
        Check.row("no drop is given by it", Check.oils(x, 0), 4, 0, 0);
        LampValley odd = Check.told(ODD);
        mothered(odd, 0, 1, 0);
        mothered(odd, 1, 3, 0);
        // From 2 2 1 to 0 5 0: red to green and blue to green both save a NIGHT.
        LampValley like = Check.told("full 5;plain 0 2 2;plain 1 0 5;likes 0 1;");
        mothered(like, 0, 1, 1);
        // She has no red to give.
        LampValley poor = Check.told("full 5;plain 0 0 2;plain 1 0 5;likes 0 1;");
        mothered(poor, 0, 7, 1);
        LampValley none = Check.told("full 5;plain 0 5 0;plain 1 0 5;likes 1 0;easter 3;");
        mothered(none, 0, -1, -1);
        mothered(none, 1, -1, -1);
        LampValley just = Check.told("full 5;plain 0 5 0;plain 1 0 5;likes 1 0;easter 4;");
        mothered(just, 1, 3, 3);
        just.nights(4);
        mothered(just, 1, -1, -1);
        // Married, but not to the one that it LIKES.
        LampValley other = Check.told("full 5;plain 0 5 0;plain 1 0 0;plain 1 4 0;likes 0 1;near 1;");
        mothered(other, 0, -1, -1);
        other.nights(1);
        Check.same("it is out", other.lamp(0, 6), 2);
        mothered(other, 0, -1, -1);
        x.nights(2);
        mothered(x, 0, -1, -1);
        for (int what : NO_WHATS) {
            Check.noSuch("mother(0, " + what + ")", () -> x.mother(0, what));
        }
        for (int lamp : NO_LAMPS) {
            Check.noSuch("mother(" + lamp + ", 0)", () -> x.mother(lamp, 0));
        }
    }

    private static void rests(LampValley x, int lamps, int rows, int first) {
        Check.same("mothers(" + lamps + ", 0)", x.mothers(lamps, 0), rows);
        Check.same("mothers(" + lamps + ", 1)", x.mothers(lamps, 1), first);
    }

    private static void mothers() {
        // Worked out by hand: only by none and 3, 1 and none, 2 and 5 they marry at all.
        LampValley odd = Check.told(ODD);
        rests(odd, 3, 3, 4);
        rests(odd, 1, 1, 2);
        rests(odd, 2, 1, 4);
        Check.row("no drop is given by it", Check.oils(odd, 0), 3, 0, 0);
        // No hopes at all: each ROW that can be given rests, 7 by 5 by 3 of them.
        LampValley far = Check.told("full 9;easter 1;plain 0 3 3;plain 0 0 5;plain 1 9 0;");
        rests(far, 7, 105, 0);
        rests(far, 3, 35, 0);
        rests(far, 6, 15, 0);
        rests(far, 4, 3, 0);
        // One who can hurry, least LAMP's figure the highest.
        LampValley one = Check.told("full 5;plain 0 5 0;plain 1 0 5;plain 0 0 0;likes 1 0;easter 4;");
        rests(one, 6, 3, 40);
        rests(one, 2, 1, 4);
        rests(one, 4, 3, 0);
        one.nights(4);
        rests(one, 6, 15, 0);
        // 0 follows 2, who flees to 1 and finds 1 a NIGHT later where 1 stands by 0: no ROW rests.
        rests(Check.told("full 1;shy 1 1 0;shy 1 1 0;shy 0 0 0;likes 0 2;likes 1 0;likes 2 1;"), 7, 0, -1);
    }

    private static void mothersRefused() {
        LampValley x = Check.told("plain 0 0 0;plain 1 0 0;plain 0 4 4;plain 0 4 4;plain 0 4 4;plain 0 4 4;");
        x.nights(1);
        for (int lamps : new int[] {0, 1, 2, 5, 60, 63, 64, 68, -1, Integer.MIN_VALUE, Integer.MAX_VALUE}) {
            Check.illegal("mothers(" + lamps + ", 0)", () -> x.mothers(lamps, 0));
        }
        Check.same("three are few enough", x.mothers(56, 0), 343);
        for (int what : NO_WHATS) {
            Check.noSuch("mothers(4, " + what + ")", () -> x.mothers(4, what));
            Check.noSuch("mothers(0, " + what + ")", () -> x.mothers(0, what));
        }
    }

    private static void may() {
        LampValley x = Check.told("full 4;plain 0 4 0;plain 1 0 4;plain 1 0 0;likes 0 1;");
        Check.same("without a book", x.may(0), 70);
        x.drop(0, 0, 2);
        Check.same("a drop tells nothing", x.may(0), 70);
        x.nights(1);
        Check.same("by the dusk, its drop in it", x.may(0), 2);
        Check.same("one who likes none", x.may(1), 64);
        x.undo(1);
        Check.same("undone", x.may(0), 70);
        // Two LAMPS of one colour can't be told apart, nor can one's own side be left out.
        LampValley same = Check.told("full 4;plain 0 4 0;plain 1 0 4;plain 0 0 4;likes 0 1;easter 9;");
        same.nights(1);
        Check.same("of one colour", same.may(0), 6);
        // The other two marry in NIGHT 0, so that none is left to go to: nothing more is told.
        same.nights(3);
        Check.same("when all others are out", same.may(0), 6);
        LampValley fog = Check.told("full 6;plain 0 6 0;plain 1 0 6;plain 1 0 0;likes 0 1;fog 0 0 1;");
        fog.nights(1);
        Check.same("by fog", fog.may(0), 6);
        fog.nights(1);
        Check.same("without fog", fog.may(0), 2);
        LampValley widow = Check.told("full 6;widow 0 6 0;plain 1 0 6;plain 1 0 0;likes 0 1;");
        widow.nights(9);
        Check.same("a widow", widow.may(0), 70);
        for (int lamp : new int[] {-1, 3, Integer.MIN_VALUE, Integer.MAX_VALUE}) {
            Check.noSuch("may(" + lamp + ")", () -> x.may(lamp));
        }
    }

    private static void telling(LampValley x, int lamp, int night, int left) {
        Check.same("tells(" + lamp + ", 0)", x.tells(lamp, 0), night);
        Check.same("tells(" + lamp + ", 1)", x.tells(lamp, 1), left);
    }

    private static void tells() {
        LampValley shy = Check.told("full 6;shy 0 6 0;plain 1 0 6;plain 1 0 0;likes 0 1;easter 6;");
        telling(shy, 0, 1, 1);
        Check.same("nights by tells", shy.count(7), 0);
        shy.nights(2);
        telling(shy, 0, 2, 1);
        shy.nights(4);
        telling(shy, 0, -1, -1);
        LampValley late = Check.told("full 6;plain 0 6 0;plain 1 0 6;plain 1 0 0;likes 0 1;fog 0 0 1;fog 1 0 1;");
        telling(late, 0, 2, 1);
        late.nights(1);
        Check.same("besides what the book has", late.may(0), 6);
        telling(late, 0, 2, 1);
        LampValley widow = Check.told("full 6;widow 0 6 0;plain 1 0 6;easter 3;");
        telling(widow, 0, 0, 2);
        widow.nights(1);
        telling(widow, 0, 1, 2);
        for (int what : NO_WHATS) {
            Check.noSuch("tells(0, " + what + ")", () -> widow.tells(0, what));
        }
        for (int lamp : NO_LAMPS) {
            Check.noSuch("tells(" + lamp + ", 0)", () -> widow.tells(lamp, 0));
        }
    }

    private static void near() {
        LampValley x = Check.told("full 9;plain 0 9 0;plain 0 7 2;plain 1 0 0;plain 1 9 0;");
        int[] got = {x.near(0), x.near(1), x.near(2), x.near(8), x.near(9), x.near(30)};
        Check.row("near, of either side", got, 1, 1, 3, 3, 6, 6);
        x.nights(1);
        Check.same("who is out doesn't count", x.near(30), 1);
        for (int parts : new int[] {-1, 31, Integer.MIN_VALUE, Integer.MAX_VALUE}) {
            Check.illegal("near(" + parts + ")", () -> x.near(parts));
        }
    }

    private static void years() {
        // By seed 5 the DRAWS of 2 are 1, 1, 0, 1, 1, 0; widows have none.
        LampValley x = Check.told("plain 0 6 0;widow 1 0 6;widow 1 0 0;easter 12;");
        int[] got = {x.years(1, 5, 0), x.years(1, 5, 1), x.years(1, 5, 2), x.years(1, 5, 3), x.years(1, 5, 6)};
        Check.row("the first widow alone", got, 0, 1, 2, 2, 4);
        Check.same("the second widow alone", x.years(2, 5, 6), 2);
        Check.same("the plain one alone", x.years(0, 5, 40), 0);
        Check.same("by a seed below 0: 0, 1, 1, 1, 1, 0", x.years(1, -7, 6), 4);
        // A DRAW of one LAMP moves the seed too: 0 draws of 2, 1 and 2 draw of 1.
        LampValley y = Check.told("full 9;plain 0 9 0;widow 1 0 9;plain 1 0 0;easter 9;");
        Check.same("draws of one", y.years(1, 5, 3), 2);
        // As told, whatever NIGHTS, DROPS and likes there were.
        LampValley z = Check.told("full 4;easter 2;plain 0 4 0;plain 1 2 2;likes 0 1;");
        z.drop(0, 0, 2);
        z.nights(1);
        Check.same("as told", z.years(0, 1, 40), 0);
        Check.same("nothing changes", z.count(7) * 100 + z.lamp(0, 5), 101);
        LampValley alone = Check.told("plain 0 5 5;plain 0 5 5;");
        Check.same("none of the other side", alone.years(1, 5, 40), 40);
        for (int years : new int[] {-1, 41, Integer.MIN_VALUE, Integer.MAX_VALUE}) {
            Check.illegal("years(0, 5, " + years + ")", () -> alone.years(0, 5, years));
            Check.noSuch("years(2, 5, " + years + ")", () -> alone.years(2, 5, years));
        }
        for (int lamp : NO_LAMPS) {
            Check.noSuch("years(" + lamp + ", 5, 1)", () -> alone.years(lamp, 5, 1));
        }
    }

    private static void images() {
        LampValley x = Check.told("full 6;plain 0 6 0;plain 1 0 6;likes 0 1;easter 9;");
        Check.same("no image", x.restore(), false);
        x.drop(0, 0, 2);
        x.nights(1);
        x.drop(0, 0, 2);
        x.drop(1, 0, 1);
        x.image();
        x.undo(1);
        x.nights(9);
        x.nights(9);
        x.drop(1, 0, 1);
        Check.tell(x, "x");
        x.feed(0, 0, 0, 0, 0);
        Check.same("married", x.count(8), 1);
        Check.same("restore", x.restore(), true);
        Check.same("night, couples, refused", x.count(7) + " " + x.count(8) + " " + x.count(10) + " "
                + x.count(11) + " " + x.count(12), "1 0 0 1 0");
        Check.same("nobody is married", x.lamp(0, 6) + x.lamp(0, 7), -2);
        Check.row("a drop is kept", Check.oils(x, 0), 3, 1, 2);
        Check.same("the book is kept", x.book(1, 0, 0), 4);
        Check.same("with its dusk", x.may(0), 2);
        Check.same("the tape stays", x.count(9), 20);
        Check.same("the fault stays", x.fault(), 0);
        x.undo(1);
        Check.row("undone from the image", Check.oils(x, 0), 6, 0, 0);
        Check.same("restore again", x.restore(), true);
        Check.row("once more", Check.oils(x, 0), 3, 1, 2);
        x.nights(5);
        x.image();
        x.undo(9);
        x.restore();
        Check.same("in place of the other one", x.count(7), 6);
    }
}
