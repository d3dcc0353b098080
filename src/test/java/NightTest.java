/** Promises 6 to 11: lamp, far, nights, undo, book, drop. */
public final class NightTest {
    private static final String TWO = "full 4;plain 0 4 0;plain 1 0 4;likes 0 1;likes 1 0;";
    private static final int[] NO_LAMPS = {-1, 2, 6, Integer.MIN_VALUE, Integer.MAX_VALUE};

    private NightTest() {
    }

    public static void main(String[] args) {
        lampAndFar();
        whoDoesntMove();
        whereTo();
        howFar();
        drunks();
        marrying();
        nights();
        undoing();
        book();
        drops();
        Check.finish("NightTest");
    }

    private static void lampAndFar() {
        LampValley x = Check.told("full 6;bold 1 6 0;shy 0 1 2;likes 1 0;");
        Check.same("likes none", x.lamp(0, 5), -1);
        Check.same("likes", x.lamp(1, 5), 0);
        Check.same("far", x.far(0, 1), 5);
        Check.same("far back", x.far(1, 0), 5);
        Check.same("far from itself", x.far(1, 1), 0);
        for (int lamp : NO_LAMPS) {
            Check.noSuch("lamp(" + lamp + ", 0)", () -> x.lamp(lamp, 0));
            Check.noSuch("far(" + lamp + ", 0)", () -> x.far(lamp, 0));
            Check.noSuch("far(0, " + lamp + ")", () -> x.far(0, lamp));
        }
        for (int what : new int[] {-1, 8, Integer.MIN_VALUE, Integer.MAX_VALUE}) {
            Check.noSuch("lamp(0, " + what + ")", () -> x.lamp(0, what));
        }
    }

    private static void whoDoesntMove() {
        Check.behind("full 4;widow 0 4 0;plain 1 0 4;likes 0 1;", 5, 0, 4, 0, 0);
        Check.behind("full 4;shy 0 4 0;plain 1 0 4;likes 0 1;", 1, 0, 4, 0, 0);
        Check.behind("full 4;shy 0 4 0;plain 1 0 4;likes 0 1;", 3, 0, 3, 1, 0);
        Check.behind("full 4;plain 0 4 0;plain 1 0 4;", 3, 0, 4, 0, 0);
        String fright = "full 6;plain 0 6 0;widow 0 4 2;plain 1 0 0;likes 0 2;fright ";
        Check.behind(fright + "2;", 3, 0, 6, 0, 0);
        Check.behind(fright + "1;", 1, 0, 5, 0, 1);
        // By 0 too, a widow holds one who is just as she is.
        Check.behind("full 4;plain 0 2 1;widow 0 2 1;plain 1 0 4;likes 0 2;", 2, 0, 2, 1, 1);
        // The widow marries in NIGHT 0, and holds nobody then.
        String wed = "full 4;fright 1;plain 0 2 2;widow 1 2 2;plain 0 3 1;plain 1 0 0;likes 2 3;";
        Check.behind(wed, 1, 2, 3, 1, 0);
        Check.behind(wed, 2, 2, 2, 1, 1);
        // One who is OUT stays as it is.
        Check.behind("full 4;plain 0 4 0;plain 1 4 0;plain 1 0 4;likes 0 2;near 1;", 5, 0, 3, 1, 0);
    }

    private static void whereTo() {
        String out = "full 6;plain 0 6 0;plain 0 0 6;plain 1 0 6;likes 0 1;";
        Check.behind(out, 1, 0, 5, 1, 0);
        Check.behind(out, 4, 0, 5, 1, 0);
        // Whom it LIKES is OUT: FOG leads it nowhere.
        Check.behind(out + "fog 1 0 1;", 4, 0, 5, 1, 0);
        String fog = "full 6;plain 0 6 0;plain 1 0 6;plain 0 4 2;plain 0 4 0;likes 0 1;";
        Check.behind(fog + "fog 0 0 1;", 1, 0, 5, 1, 0);
        Check.behind(fog + "fog 0 0 1;fog 0 0 2;", 1, 0, 5, 0, 1);
        Check.behind(fog + "fog 0 0 1;fog 0 0 2;fog 0 0 3;", 1, 0, 6, 0, 0);
        Check.behind(fog + "fog 0 0 1;fog 0 0 2;fog 0 0 3;", 2, 0, 5, 1, 0);
        Check.behind("full 6;plain 0 6 0;plain 1 0 6;plain 0 4 2;plain 0 5 0;likes 0 1;fog 0 0 1;", 1, 0, 5, 0, 1);
        // FOG hides the one from the other, not the other from the one.
        Check.behind("full 6;plain 0 6 0;plain 1 0 6;plain 0 0 0;likes 0 1;fog 0 1 0;", 1, 0, 5, 1, 0);
        Check.behind("full 6;plain 0 6 0;plain 1 0 6;plain 0 0 0;likes 0 1;fog 1 0 1;", 1, 0, 5, 1, 0);
        Check.behind("full 6;plain 0 6 0;plain 1 0 6;plain 0 0 0;likes 0 1;fog 1 0 1;", 2, 0, 4, 1, 1);
        Check.behind("full 30;plain 0 30 0;plain 1 0 30;plain 0 0 0;likes 0 1;fog 0 0 1;", 1, 0, 29, 0, 1);
        // The nearest one that isn't hidden may be OUT: then it is passed over.
        Check.behind("full 6;plain 0 6 0;plain 1 0 0;plain 0 4 2;plain 1 4 2;plain 0 0 6;likes 0 1;fog 1 0 1;",
                2, 0, 4, 1, 1);
    }

    private static void howFar() {
        String tie = "full 6;plain 0 6 0;plain 1 0 3;likes 0 1;step ";
        Check.behind(tie + "1;", 1, 0, 5, 1, 0);
        Check.behind(tie + "2;", 1, 0, 4, 1, 1);
        Check.behind("full 6;plain 0 3 3;plain 1 0 0;likes 0 1;", 1, 0, 2, 3, 1);
        Check.behind("full 6;plain 0 3 3;plain 1 0 0;likes 0 1;step 2;", 1, 0, 2, 2, 2);
        Check.behind("full 6;plain 0 4 0;plain 0 0 4;likes 0 1;step 9;", 1, 0, 0, 4, 2);
        Check.behind("full 9;bold 0 9 0;plain 1 0 9;likes 0 1;step 2;", 1, 0, 5, 4, 0);
        // All at once, by what they were at dusk: these two change places.
        Check.behind(TWO + "step 9;", 1, 0, 0, 4, 0);
        Check.behind(TWO + "step 9;", 1, 1, 4, 0, 0);
    }

    private static void drunks() {
        Check.behind("full 4;drunk 0 2 1;", 1, 0, 1, 2, 1);
        Check.behind("full 4;drunk 0 0 2;", 1, 0, 0, 1, 3);
        Check.behind("full 4;drunk 0 0 0;", 1, 0, 1, 0, 3);
        Check.behind("full 6;drunk 0 6 0;plain 1 0 0;likes 0 1;", 1, 0, 4, 1, 1);
        Check.behind("full 6;drunk 0 3 2;plain 1 0 5;likes 0 1;step 2;", 1, 0, 1, 3, 2);
        Check.behind("full 6;drunk 0 6 0;widow 0 5 0;fright 1;", 3, 0, 6, 0, 0);
        // Whom it LIKES is OUT: it staggers all the same.
        Check.behind("full 6;drunk 0 0 0;plain 0 6 0;plain 1 6 0;likes 0 1;easter 9;fog 0 0 2;", 2, 0, 3, 0, 3);
    }

    private static void marrying() {
        LampValley x = Check.told("full 4;plain 0 4 0;plain 0 4 0;plain 1 4 0;plain 1 4 0;plain 1 4 0;");
        Check.row("nobody marries in the first dusk", Check.spouses(x), -1, -1, -1, -1, -1);
        Check.same("two couples", x.nights(1), 2);
        Check.row("the least first", Check.spouses(x), 2, 3, 0, 1, -1);
        LampValley y = Check.told("full 9;near 2;plain 1 9 0;plain 0 6 3;plain 0 7 2;plain 1 5 4;");
        Check.same("couples by near", y.nights(1), 2);
        Check.row("no further than near", Check.spouses(y), 2, 3, 0, 1);
        Check.same("the night of it", y.lamp(0, 7) * 10 + y.lamp(3, 7), 0);
        Check.same("no more of them", y.nights(5), 0);
        LampValley z = Check.told("full 9;near 2;plain 1 9 0;plain 0 6 3;");
        Check.same("too far by one", z.nights(9), 0);
    }

    private static void nights() {
        LampValley x = Check.told(TWO + "easter 5;");
        Check.same("nights(0)", x.nights(0), 0);
        Check.same("beyond easter", x.nights(6), -1);
        Check.same("none went by", x.count(7) * 10 + x.count(12), 1);
        Check.same("up to easter", x.nights(5), 1);
        Check.row("married", Check.spouses(x), 1, 0);
        Check.same("in night 1", x.lamp(0, 7), 1);
        Check.same("at easter", x.nights(1), -1);
        Check.same("99 nights", x.nights(99), -1);
        Check.same("nights(0) at easter", x.nights(0), 0);
        Check.same("refused", x.count(12), 3);
        for (int nights : new int[] {-1, 100, Integer.MIN_VALUE, Integer.MAX_VALUE}) {
            Check.illegal("nights(" + nights + ")", () -> x.nights(nights));
        }
        Check.same("nothing refused by that", x.count(12), 3);
        LampValley y = Check.told("easter 99;plain 0 0 0;");
        Check.same("99 nights at once", y.nights(99), 0);
        Check.same("99 nights went by", y.count(7), 99);
        Check.same("book of the last", y.book(99, 0, 2), 12);
    }

    private static void undoing() {
        LampValley x = Check.told("full 9;plain 0 9 0;plain 1 0 9;plain 1 9 0;plain 0 0 9;likes 0 1;");
        Check.same("undo of none", x.undo(3), 0);
        x.drop(0, 0, 2);
        Check.same("undo(0)", x.undo(0), 0);
        Check.same("undo of none again", x.undo(1), 0);
        Check.row("a drop stays by it", Check.oils(x, 0), 8, 0, 1);
        x.nights(1);
        x.drop(0, 2, 0);
        x.nights(2);
        Check.row("oils", Check.oils(x, 0), 8, 1, 0);
        Check.same("couples", x.count(8), 1);
        x.drop(0, 0, 2);
        Check.same("undo two", x.undo(2), 2);
        Check.row("as at that dawn, without its drop", Check.oils(x, 0), 7, 1, 1);
        Check.same("the couple of night 0 is married still", x.lamp(1, 6) * 10 + x.lamp(1, 7), 30);
        Check.same("undo all", x.undo(Integer.MAX_VALUE), 1);
        Check.row("as told", Check.oils(x, 0), 9, 0, 0);
        Check.row("nobody is married", Check.spouses(x), -1, -1, -1, -1);
        Check.same("nights and couples", x.count(7) * 10 + x.count(8), 0);
        Check.same("married anew", x.nights(1), 1);
        for (int nights : new int[] {-1, Integer.MIN_VALUE}) {
            Check.illegal("undo(" + nights + ")", () -> x.undo(nights));
        }
        Check.same("nothing changes by that", x.count(7), 1);
    }

    private static void book() {
        LampValley x = Check.told("full 6;plain 0 6 0;plain 0 0 6;likes 0 1;");
        x.drop(0, 0, 2);
        Check.same("as told", x.book(0, 0, 0), 6);
        x.nights(1);
        x.drop(0, 0, 2);
        Check.same("night 0", x.book(0, 0, 0) * 100 + x.book(0, 0, 1) * 10 + x.book(0, 0, 2), 600);
        Check.same("night 1", x.book(1, 0, 0) * 100 + x.book(1, 0, 1) * 10 + x.book(1, 0, 2), 411);
        Check.same("now", x.lamp(0, 2) * 100 + x.lamp(0, 3) * 10 + x.lamp(0, 4), 312);
        Check.same("another lamp", x.book(1, 1, 1), 6);
        for (int night : new int[] {-1, 2, 100, Integer.MIN_VALUE, Integer.MAX_VALUE}) {
            Check.noSuch("book(" + night + ", 0, 0)", () -> x.book(night, 0, 0));
        }
        for (int lamp : NO_LAMPS) {
            Check.noSuch("book(0, " + lamp + ", 0)", () -> x.book(0, lamp, 0));
        }
        for (int oil : new int[] {-1, 3, Integer.MIN_VALUE, Integer.MAX_VALUE}) {
            Check.noSuch("book(0, 0, " + oil + ")", () -> x.book(0, 0, oil));
        }
        x.undo(1);
        Check.noSuch("an undone night", () -> x.book(1, 0, 0));
    }

    private static void drops() {
        LampValley x = Check.told("full 4;plain 0 1 0;plain 1 2 2;plain 0 2 2;");
        Check.same("a drop", x.drop(0, 0, 1), true);
        Check.row("oils", Check.oils(x, 0), 0, 1, 3);
        Check.same("no part more of it", x.drop(0, 0, 2), false);
        Check.row("as they were", Check.oils(x, 0), 0, 1, 3);
        Check.same("refused", x.count(11), 1);
        Check.same("a second drop in one night", x.drop(0, 2, 0), true);
        x.nights(1);
        Check.same("one who is out", x.drop(1, 0, 1), false);
        Check.row("out as it is", Check.oils(x, 1), 2, 2, 0);
        Check.same("refused again", x.count(11), 2);
        for (int oil : new int[] {-1, 3, Integer.MIN_VALUE, Integer.MAX_VALUE}) {
            Check.noSuch("drop(0, " + oil + ", 0)", () -> x.drop(0, oil, 0));
            Check.noSuch("drop(0, 0, " + oil + ")", () -> x.drop(0, 0, oil));
        }
        Check.noSuch("drop(0, 1, 1)", () -> x.drop(0, 1, 1));
        Check.noSuch("drop of one who is out, both oils one", () -> x.drop(1, 1, 1));
        for (int lamp : new int[] {-1, 3, Integer.MIN_VALUE, Integer.MAX_VALUE}) {
            Check.noSuch("drop(" + lamp + ", 0, 1)", () -> x.drop(lamp, 0, 1));
        }
        Check.same("nothing refused by that", x.count(11), 2);
        x.nights(39);
        Check.same("a drop at easter", x.drop(0, 2, 1), true);
    }
}
