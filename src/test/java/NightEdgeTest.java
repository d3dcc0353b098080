/** The edges that promises 6 to 11 name, sentence by sentence; the document's words are quoted. */
public final class NightEdgeTest {
    private static final int[] FAR_OUT = {-2, 31, 32, 99, 1 << 16, Integer.MIN_VALUE, Integer.MAX_VALUE};
    private static final String THREE = "full 9;plain 0 9 0;plain 1 0 9;widow 1 0 0;likes 0 1;easter 6;";

    private NightEdgeTest() {
    }

    public static void main(String[] args) {
        lampKnowsEight();
        howFarByTwo();
        widowsAndShyOnesStay();
        frightEnds();
        frightIsByDusk();
        whomItLikesIsOut();
        fogHidesInItsNight();
        fogLeadsToTheNearest();
        whichOils();
        howManySteps();
        allAtOnce();
        drunkOnesStagger();
        nearEnds();
        whoMarriesWhom();
        outAsTheyAre();
        nobodyMarriesInTheFirstDusk();
        nightsUpToEaster();
        nightsRefused();
        nightsIllegal();
        undoNoMoreThanWentBy();
        undoPartsCouples();
        undoTakesDropsBack();
        undoOfNone();
        bookEnds();
        bookWithoutDropsToCome();
        dropsOfEachOil();
        dropsRefused();
        dropsThatCantBe();
        Check.finish("NightEdgeTest");
    }

    // ---- 6: "NoSuchElementException: no such LAMP (as everywhere), what" ----

    private static void lampKnowsEight() {
        LampValley x = Check.told("plain 0 1 2;shy 1 3 4;bold 0 5 6;drunk 1 7 5;widow 0 12 0;plain 1 0 0;likes 5 4;");
        Check.same("the first", x.lamp(0, 0) + " " + x.lamp(0, 1) + " " + x.lamp(0, 4), "0 0 9");
        Check.same("the last", x.lamp(5, 0) + " " + x.lamp(5, 1) + " " + x.lamp(5, 4), "0 1 12");
        Check.same("none", x.lamp(5, 5) + " " + x.lamp(4, 5) + " " + x.lamp(5, 6) + " " + x.lamp(5, 7), "4 -1 -1 -1");
        for (int lamp = 0; lamp < 6; lamp++) {
            int asked = lamp;
            Check.noSuch("what -1", () -> x.lamp(asked, -1));
            Check.noSuch("what 8", () -> x.lamp(asked, 8));
        }
        Check.noSuch("lamp -1", () -> x.lamp(-1, 0));
        Check.noSuch("lamp 6", () -> x.lamp(6, 0));
        for (int far : FAR_OUT) {
            Check.noSuch("what " + far, () -> x.lamp(0, far));
            Check.noSuch("lamp " + far, () -> x.lamp(far, 0));
            Check.noSuch("both " + far, () -> x.lamp(far, far));
        }
    }

    // ---- 7: "how much their OILS differ, all together, by 2" ----

    private static void howFarByTwo() {
        LampValley x = Check.told("full 30;plain 0 30 0;plain 0 0 30;plain 0 0 0;plain 0 10 10;plain 0 11 9;plain 1 12 9;");
        Check.same("as far as can be", x.far(0, 1) + " " + x.far(1, 2) + " " + x.far(2, 0), "30 30 30");
        Check.same("by one part", x.far(3, 4), 1);
        Check.same("by two parts of one oil", x.far(3, 5) + " " + x.far(5, 3), "2 2");
        Check.same("by one part again", x.far(4, 5), 1);
        for (int lamp = 0; lamp < 6; lamp++) {
            Check.same("from itself", x.far(lamp, lamp), 0);
        }
        LampValley wed = Check.told("full 4;plain 0 4 0;plain 1 3 1;near 1;");
        wed.nights(1);
        Check.same("who is out is as far", wed.far(0, 1), 1);
        for (int lamp : new int[] {-1, 6, Integer.MIN_VALUE, Integer.MAX_VALUE}) {
            Check.noSuch("far(" + lamp + ", 0)", () -> x.far(lamp, 0));
            Check.noSuch("far(5, " + lamp + ")", () -> x.far(5, lamp));
            Check.noSuch("far(" + lamp + ", " + lamp + ")", () -> x.far(lamp, lamp));
        }
    }

    // ---- (a): "A widow doesn't move; a shy one not in NIGHTS 0, 2, 4 .." ----

    private static void widowsAndShyOnesStay() {
        Check.behind("full 9;widow 0 9 0;plain 1 0 9;likes 0 1;step 9;", 40, 0, 9, 0, 0);
        String shy = "full 9;shy 0 9 0;plain 1 0 9;likes 0 1;";
        for (int nights = 0; nights <= 8; nights++) {
            Check.behind(shy, nights, 0, 9 - nights / 2, nights / 2, 0);
        }
        LampValley x = Check.told(shy);
        for (int nights = 1; nights <= 6; nights++) {
            x.nights(1);
            Check.same("one night at a time", x.lamp(0, 2), 9 - nights / 2);
        }
        x.undo(3);
        x.nights(1);
        Check.same("night 3 again", x.lamp(0, 2), 7);
    }

    // "nobody does who is no further than FRIGHT from a widow that isn't OUT"
    private static void frightEnds() {
        String nine = "full 30;fright 9;plain 0 30 0;plain 1 0 30;likes 0 1;widow 0 ";
        Check.behind(nine + "21 9;", 1, 0, 30, 0, 0);
        Check.behind(nine + "20 10;", 1, 0, 29, 1, 0);
        Check.behind(nine + "29 1;", 5, 0, 30, 0, 0);
        Check.behind(nine + "30 0;", 5, 0, 30, 0, 0);
        String none = "full 30;plain 0 30 0;plain 1 0 30;likes 0 1;widow 0 ";
        Check.behind(none + "30 0;", 5, 0, 30, 0, 0);
        Check.behind(none + "29 1;", 1, 0, 29, 1, 0);
        String first = "full 6;widow 0 6 0;plain 0 5 1;plain 1 0 6;likes 1 2;fright ";
        Check.behind(first + "1;", 3, 1, 5, 1, 0);
        Check.behind(first + "0;", 1, 1, 4, 2, 0);
        // Every kind is held, and on either side.
        for (String kind : new String[] {"plain", "shy", "bold", "drunk"}) {
            String held = "full 6;fright 2;near 0;" + kind + " 0 6 0;plain 1 0 6;likes 0 1;widow ";
            Check.behind(held + "0 4 0;", 4, 0, 6, 0, 0);
            Check.behind(held + "1 4 0;", 4, 0, 6, 0, 0);
        }
    }

    private static void frightIsByDusk() {
        String way = "full 9;fright 2;plain 0 9 0;widow 0 5 4;plain 1 0 9;likes 0 2;step ";
        Check.behind(way + "1;", 2, 0, 7, 2, 0);
        Check.behind(way + "1;", 9, 0, 7, 2, 0);
        Check.behind(way + "3;", 1, 0, 6, 3, 0);
        Check.behind(way + "3;", 9, 0, 6, 3, 0);
        Check.behind(way + "7;", 2, 0, 0, 9, 0);
        // The widow is OUT by NIGHT 0's end: she held lamp 2 in that NIGHT only.
        String wed = "full 4;fright 1;plain 0 2 2;widow 1 2 2;plain 0 3 1;plain 1 0 0;likes 2 3;";
        Check.behind(wed, 1, 2, 3, 1, 0);
        Check.behind(wed, 2, 2, 2, 1, 1);
    }

    // ---- (b): "not at all, if it is, or if it LIKES none" ----

    private static void whomItLikesIsOut() {
        Check.behind("full 6;plain 0 6 0;plain 1 0 6;", 40, 0, 6, 0, 0);
        String out = "full 6;plain 0 0 6;plain 1 0 6;plain 0 6 0;plain 1 0 0;likes 2 0;";
        Check.behind(out, 1, 2, 5, 1, 0);
        Check.behind(out, 9, 2, 5, 1, 0);
        Check.behind(out + "fog 1 2 0;fog 2 2 0;", 9, 2, 5, 1, 0);
        Check.behind(out.replace("plain 0 6 0", "drunk 0 6 0"), 1, 2, 4, 2, 0);
        Check.behind(out.replace("plain 0 6 0", "drunk 0 6 0"), 2, 2, 3, 3, 0);
    }

    // "if FOG hides that one from it"
    private static void fogHidesInItsNight() {
        String two = "full 6;plain 1 0 6;plain 0 6 0;likes 1 0;";
        Check.behind(two + "fog 0 1 0;", 1, 1, 6, 0, 0);
        Check.behind(two + "fog 0 1 0;", 2, 1, 5, 1, 0);
        Check.behind(two + "fog 1 1 0;", 1, 1, 5, 1, 0);
        Check.behind(two + "fog 1 1 0;", 2, 1, 5, 1, 0);
        Check.behind(two + "fog 1 1 0;", 3, 1, 4, 2, 0);
        Check.behind(two + "fog 0 0 1;", 1, 1, 5, 1, 0);
        StringBuilder ten = new StringBuilder(two);
        for (int night = 0; night < 10; night++) {
            ten.append("fog ").append(night).append(" 1 0;");
        }
        Check.behind(ten.toString(), 10, 1, 6, 0, 0);
        Check.behind(ten.toString(), 11, 1, 5, 1, 0);
        Check.behind("full 6;plain 0 6 0;plain 1 0 6;likes 0 1;easter 99;fog 98 0 1;step 9;", 1, 0, 0, 6, 0);
        Check.behind("full 9;easter 99;drunk 0 9 0;plain 1 0 0;likes 0 1;fog 0 0 1;", 1, 0, 8, 1, 0);
    }

    // "towards the nearest one of all others that aren't OUT and that no FOG hides .., of like ones the least"
    private static void fogLeadsToTheNearest() {
        String four = "full 6;plain 0 6 0;plain 0 4 2;plain 0 4 0;plain 1 0 6;plain 1 1 0;likes 0 3;fog 0 0 3;";
        Check.behind(four, 1, 0, 5, 1, 0);
        Check.behind(four + "fog 0 0 1;", 1, 0, 5, 0, 1);
        Check.behind(four + "fog 0 0 1;fog 0 0 2;", 1, 0, 5, 0, 1);
        Check.behind(four + "fog 0 0 1;fog 0 0 2;fog 0 0 4;", 1, 0, 6, 0, 0);
        // A fog of another night, or from another's eye, hides nothing here.
        Check.behind(four + "fog 1 0 1;fog 0 1 0;fog 0 2 1;", 1, 0, 5, 1, 0);
        Check.behind("full 6;plain 0 6 0;plain 0 5 1;plain 1 0 0;likes 1 2;fog 0 1 2;", 1, 1, 6, 0, 0);
        // One part nearer is nearer, be it the greater lamp.
        Check.behind("full 6;plain 0 6 0;plain 0 4 2;plain 0 5 0;plain 1 0 6;likes 0 3;fog 0 0 3;", 1, 0, 5, 0, 1);
        Check.behind("full 30;plain 0 30 0;plain 1 0 30;plain 0 0 0;likes 0 1;fog 0 0 1;", 1, 0, 29, 0, 1);
        // One just like it is the nearest: it stays.
        Check.behind("full 6;plain 0 6 0;plain 1 0 6;plain 0 6 0;plain 0 5 0;likes 0 1;fog 0 0 1;", 1, 0, 6, 0, 0);
        // Who is OUT is passed over: 2 and 3 marry in NIGHT 0.
        Check.behind("full 6;plain 0 6 0;plain 1 0 0;plain 0 4 2;plain 1 4 2;plain 0 0 1;likes 0 1;fog 1 0 1;",
                2, 0, 4, 0, 2);
    }

    // ---- (c): "of like ones the least OIL each" ----

    private static void whichOils() {
        int[][] cases = {
            {3, 3, 2, 3, 1}, {4, 1, 3, 2, 1}, {1, 1, 2, 1, 3}, {0, 3, 1, 2, 3}, {3, 0, 2, 1, 3}, {1, 4, 2, 3, 1},
            {2, 2, 2, 2, 2}, {6, 0, 5, 1, 0}, {0, 6, 1, 5, 0}, {0, 0, 1, 0, 5}, {2, 3, 2, 2, 2}, {3, 2, 2, 2, 2},
            {2, 1, 2, 2, 2}, {1, 2, 2, 2, 2}, {1, 3, 2, 2, 2}, {3, 1, 2, 2, 2}};
        for (int[] due : cases) {
            Check.behind("full 6;plain 0 " + due[0] + " " + due[1] + ";plain 0 2 2;likes 0 1;", 1, 0,
                    due[2], due[3], due[4]);
        }
    }

    // "STEP times (a bold one twice as often)" - "no more when both are alike"
    private static void howManySteps() {
        for (int step = 1; step <= 9; step++) {
            String far = "full 30;step " + step + ";plain 0 0 30;";
            Check.behind(far + "plain 0 30 0;likes 1 0;", 1, 1, 30 - step, step, 0);
            Check.behind(far + "bold 0 30 0;likes 1 0;", 1, 1, 30 - 2 * step, 2 * step, 0);
            String close = "full 30;step " + step + ";plain 0 10 10;";
            Check.behind(close + "plain 0 " + (10 + step) + " " + (10 - step) + ";likes 1 0;", 1, 1, 10, 10, 10);
            Check.behind(close + "plain 0 11 9;likes 1 0;", 1, 1, 10, 10, 10);
            Check.behind(close + "bold 0 11 10;likes 1 0;", 1, 1, 10, 10, 10);
            Check.behind(close + "plain 0 10 10;likes 1 0;", 1, 1, 10, 10, 10);
        }
    }

    // "all at once, by what they were at dusk"
    private static void allAtOnce() {
        String chain = "full 6;plain 0 6 0;plain 0 0 6;plain 0 0 0;likes 0 1;likes 1 2;likes 2 0;step 6;";
        Check.behind(chain, 1, 0, 0, 6, 0);
        Check.behind(chain, 1, 1, 0, 0, 6);
        Check.behind(chain, 1, 2, 6, 0, 0);
        // These two change places for ever, and never meet.
        LampValley x = Check.told("full 6;plain 0 6 0;plain 1 0 6;likes 0 1;likes 1 0;step 6;");
        Check.same("never met", x.nights(40), 0);
        Check.row("where it began", Check.oils(x, 0), 6, 0, 0);
    }

    // ---- (d): "of like ones the least, to the next one (from blue to red)" ----

    private static void drunkOnesStagger() {
        int[][] cases = {
            {2, 2, 1, 3, 2}, {0, 3, 0, 2, 4}, {3, 0, 2, 1, 3}, {3, 3, 2, 4, 0}, {0, 0, 1, 0, 5}, {6, 0, 5, 1, 0},
            {0, 6, 0, 5, 1}, {1, 2, 2, 2, 2}, {1, 1, 2, 1, 3}, {1, 3, 1, 2, 3}};
        for (int[] due : cases) {
            Check.behind("full 6;drunk 0 " + due[0] + " " + due[1] + ";", 1, 0, due[2], due[3], due[4]);
        }
        String one = "full 1;drunk 0 1 0;";
        Check.behind(one, 1, 0, 0, 1, 0);
        Check.behind(one, 2, 0, 0, 0, 1);
        Check.behind(one, 3, 0, 1, 0, 0);
        // By what (c) made of it: 6 0 0 to 4 0 2 by two steps, and a part of red more.
        Check.behind("full 6;drunk 0 6 0;plain 0 0 0;likes 0 1;step 2;", 1, 0, 3, 1, 2);
        Check.behind("full 6;drunk 0 6 0;plain 0 6 0;likes 0 1;", 1, 0, 5, 1, 0);
        Check.behind("full 6;drunk 0 6 0;widow 0 6 0;likes 0 1;", 1, 0, 6, 0, 0);
    }

    // "no further than NEAR"
    private static void nearEnds() {
        for (int near = 0; near <= 9; near++) {
            String text = "full 30;near " + near + ";plain 0 30 0;plain 1 ";
            Check.same("just near", Check.told(text + (30 - near) + " " + near + ";").nights(1), 1);
            Check.same("one part further", Check.told(text + (29 - near) + " " + (near + 1) + ";").nights(9), 0);
        }
    }

    // "from the least LAMP on, each that isn't OUT marries the least one behind it of the other SIDE that isn't OUT"
    private static void married(String text, int nights, int... spouses) {
        LampValley x = Check.told(text);
        x.nights(nights);
        Check.row("who is married in " + text, Check.spouses(x), spouses);
    }

    private static void whoMarriesWhom() {
        String nine = "full 9;near 2;";
        // The least one, not the nearest one.
        married(nine + "plain 0 9 0;plain 1 7 2;plain 1 9 0;", 1, 1, 0, -1);
        married(nine + "plain 1 9 0;plain 0 7 2;plain 0 9 0;", 1, 1, 0, -1);
        married(nine + "plain 0 9 0;plain 0 9 0;plain 1 9 0;", 1, 2, -1, 0);
        married(nine + "plain 0 9 0;plain 0 9 0;plain 0 9 0;", 9, -1, -1, -1);
        married(nine + "plain 1 9 0;plain 1 9 0;", 9, -1, -1);
        // 1 is OUT when 2 has its turn.
        married(nine + "plain 0 9 0;plain 1 7 2;plain 0 5 4;", 1, 1, 0, -1);
        married(nine + "plain 0 9 0;plain 0 9 0;plain 1 9 0;plain 1 9 0;plain 0 9 0;plain 1 9 0;", 1, 2, 3, 0, 1, 5, 4);
        // The last two of six; widows marry, too.
        married(nine + "plain 0 9 0;plain 0 9 0;plain 0 9 0;plain 0 9 0;widow 0 0 9;widow 1 0 8;", 1,
                -1, -1, -1, -1, 5, 4);
    }

    // "both are OUT, as they are"
    private static void outAsTheyAre() {
        String drunks = "full 9;near 1;drunk 0 9 0;drunk 1 8 0;likes 0 1;likes 1 0;";
        LampValley x = Check.told(drunks);
        Check.same("one couple", x.nights(1), 1);
        String wed = Check.oils(x, 0)[0] + "" + x.lamp(0, 3) + x.lamp(1, 2) + x.lamp(1, 3);
        Check.same("no more couples", x.nights(9), 0);
        Check.same("as they are", Check.oils(x, 0)[0] + "" + x.lamp(0, 3) + x.lamp(1, 2) + x.lamp(1, 3), wed);
        Check.same("the night of it stays", x.lamp(0, 7) + x.lamp(1, 7), 0);
        // None marries one who is OUT: 2 comes too late.
        married("full 4;plain 0 4 0;plain 1 4 0;plain 1 3 1;likes 2 0;", 9, 1, 0, -1);
    }

    // "In the first dusk nobody marries"
    private static void nobodyMarriesInTheFirstDusk() {
        LampValley x = Check.told("full 4;plain 0 4 0;plain 1 4 0;plain 0 0 4;likes 0 2;");
        Check.row("as told", Check.spouses(x), -1, -1, -1);
        Check.same("they part in night 0", x.nights(1), 0);
        LampValley y = Check.told("full 4;plain 0 4 0;plain 1 3 1;");
        y.nights(3);
        y.drop(0, 0, 1);
        Check.same("a drop marries nobody", y.count(8), 0);
        Check.same("the night does", y.nights(1), 1);
        Check.same("which one", y.lamp(0, 7) * 10 + y.lamp(1, 7), 33);
    }

    // ---- 8: "So many NIGHTS (0 to 99)" - "they would go beyond EASTER (none goes by)" ----

    private static void nightsUpToEaster() {
        for (int easter : new int[] {1, 2, 40, 98, 99}) {
            LampValley x = Check.told("plain 0 1 2;easter " + easter + ";");
            Check.same("up to easter", x.nights(easter), 0);
            Check.same("nights gone by", x.count(7), easter);
            Check.same("one beyond", x.nights(1), -1);
            Check.same("none is not beyond", x.nights(0), 0);
            Check.same("refused", x.count(12), 1);
            LampValley y = Check.told("plain 0 1 2;easter " + easter + ";");
            Check.same("one too many", y.nights(Math.min(99, easter + 1)), easter == 99 ? 0 : -1);
        }
        LampValley once = Check.told(THREE);
        LampValley often = Check.told(THREE);
        once.nights(5);
        for (int night = 0; night < 5; night++) {
            often.nights(1);
            often.nights(0);
        }
        Check.same("one by one", Check.look(often), Check.look(once));
        LampValley couples = Check.told("full 9;plain 0 9 0;plain 1 9 0;plain 0 0 9;plain 1 0 7;likes 3 2;");
        Check.same("couples of all these nights", couples.nights(2), 2);
        Check.same("in which", couples.lamp(0, 7) + " " + couples.lamp(3, 7), "0 1");
    }

    private static void nightsRefused() {
        LampValley x = Check.told(THREE);
        x.nights(2);
        x.drop(0, 0, 2);
        String lamps = Check.lookAtLamps(x);
        for (int i = 1; i <= 3; i++) {
            Check.same("beyond easter", x.nights(i == 3 ? 99 : 5), -1);
            Check.same("none goes by", Check.lookAtLamps(x), lamps);
            Check.row("status 2 alone", Check.counts(x), 9, 3, 1, 0, 0, 6, 0, 2, 0, 0, 0, 0, i);
        }
        Check.same("just up to it", x.nights(4), 0);
    }

    private static void nightsIllegal() {
        LampValley x = Check.told(THREE);
        x.nights(6);
        String all = Check.look(x);
        for (int nights : new int[] {-1, 100, 101, Integer.MIN_VALUE, Integer.MAX_VALUE, Integer.MAX_VALUE - 5}) {
            Check.illegal("nights(" + nights + ")", () -> x.nights(nights));
            Check.same("nothing changes by nights(" + nights + ")", Check.look(x), all);
        }
    }

    // ---- 9: "So many NIGHTS are UNDONE (no more than went by)" ----

    private static void undoNoMoreThanWentBy() {
        LampValley x = Check.told(THREE);
        String told = Check.look(x);
        for (int back : new int[] {5, 6, 99, 100, Integer.MAX_VALUE}) {
            x.nights(5);
            Check.same("undo(" + back + ")", x.undo(back), 5);
            Check.same("as told", Check.look(x), told);
        }
        x.nights(2);
        String two = Check.look(x);
        x.nights(3);
        Check.same("some", x.undo(3), 3);
        Check.same("as it was then", Check.look(x), two);
        x.nights(4);
        x.nights(1);
        x.undo(1);
        Check.same("a refused one stays refused", x.count(12), 1);
        String all = Check.look(x);
        for (int back : new int[] {-1, -2, -99, Integer.MIN_VALUE}) {
            Check.illegal("undo(" + back + ")", () -> x.undo(back));
            Check.same("nothing changes by undo(" + back + ")", Check.look(x), all);
        }
    }

    private static void undoPartsCouples() {
        // 0 and 1 marry in NIGHT 0, 2 and 3 in NIGHT 1, 4 and 5 in NIGHT 3.
        String text = "full 9;plain 0 9 0;plain 1 9 0;plain 0 0 9;plain 1 0 7;plain 0 3 0;plain 1 7 0;likes 3 2;likes 5 4;";
        int[] couples = {0, 1, 2, 2, 3};
        for (int back = 1; back <= 4; back++) {
            LampValley x = Check.told(text);
            Check.same("three couples", x.nights(4), 3);
            Check.same("undone", x.undo(back), back);
            Check.same("couples left", x.count(8), couples[4 - back]);
            int[] spouses = {1, 0, 3, 2, -1, -1};
            int[] nights = {0, 0, 1, 1, -1, -1};
            for (int lamp = 0; lamp < 6; lamp++) {
                boolean wed = nights[lamp] >= 0 && nights[lamp] < 4 - back;
                Check.same("married to", x.lamp(lamp, 6), wed ? spouses[lamp] : -1);
                Check.same("married in", x.lamp(lamp, 7), wed ? nights[lamp] : -1);
                Check.same("may have a drop", x.drop(lamp, x.lamp(lamp, 2) > 0 ? 0 : 1, 2), !wed);
            }
        }
        LampValley again = Check.told(text);
        again.nights(4);
        String all = Check.look(again);
        again.undo(4);
        Check.same("three couples again", again.nights(4), 3);
        Check.same("all the same", Check.look(again), all);
    }

    // "with DROPS that were given ahead of them and since"
    private static void undoTakesDropsBack() {
        LampValley x = Check.told(THREE);
        x.drop(0, 0, 2);
        x.nights(1);
        Check.row("8 0 1, and a step", Check.oils(x, 0), 7, 1, 1);
        x.drop(0, 2, 1);
        x.drop(1, 1, 2);
        x.nights(1);
        x.drop(0, 0, 1);
        Check.same("one night", x.undo(1), 1);
        Check.row("without drops ahead of it and since", Check.oils(x, 0), 7, 1, 1);
        Check.row("of each lamp", Check.oils(x, 1), 0, 9, 0);
        x.drop(1, 1, 0);
        Check.same("the first night", x.undo(1), 1);
        Check.row("as told", Check.oils(x, 0), 9, 0, 0);
        Check.row("as told, too", Check.oils(x, 1), 0, 9, 0);
        x.drop(2, 0, 1);
        x.nights(1);
        x.undo(1);
        Check.same("a refused drop stays refused", x.count(11), 1);
    }

    // "how many (0: nothing changes)"
    private static void undoOfNone() {
        LampValley x = Check.told(THREE);
        x.drop(0, 0, 1);
        String first = Check.look(x);
        for (int back : new int[] {0, 1, 99, Integer.MAX_VALUE}) {
            Check.same("no night went by", x.undo(back), 0);
            Check.same("the drop stays", Check.look(x), first);
        }
        x.nights(2);
        x.drop(0, 0, 1);
        String later = Check.look(x);
        Check.same("none asked for", x.undo(0), 0);
        Check.same("this drop stays, too", Check.look(x), later);
    }

    // ---- 10: "0: as told; up to as many as went by" ----

    private static void bookEnds() {
        LampValley x = Check.told("full 30;easter 99;shy 0 30 0;plain 0 0 0;plain 1 0 30;likes 0 1;");
        x.nights(99);
        for (int night = 0; night <= 99; night++) {
            Check.same("behind " + night, x.book(night, 0, 0), Math.max(0, 30 - night / 2));
        }
        Check.noSuch("behind 100", () -> x.book(100, 0, 0));
        Check.noSuch("behind -1", () -> x.book(-1, 0, 0));
        x.undo(90);
        Check.same("behind 9", x.book(9, 0, 0), 26);
        Check.noSuch("behind 10", () -> x.book(10, 0, 0));
        for (int far : FAR_OUT) {
            Check.noSuch("night " + far, () -> x.book(far, 0, 0));
            Check.noSuch("lamp " + far, () -> x.book(0, far, 0));
            Check.noSuch("oil " + far, () -> x.book(0, 0, far));
        }
        Check.same("each oil", x.book(0, 1, 0) + " " + x.book(0, 1, 1) + " " + x.book(0, 1, 2), "0 0 30");
        Check.noSuch("oil -1", () -> x.book(0, 0, -1));
        Check.noSuch("oil 3", () -> x.book(0, 0, 3));
        Check.noSuch("lamp -1", () -> x.book(0, -1, 0));
        Check.noSuch("lamp 3", () -> x.book(0, 3, 0));
    }

    // "without DROPS of the NIGHT to come"
    private static void bookWithoutDropsToCome() {
        LampValley x = Check.told(THREE);
        x.drop(0, 0, 2);
        Check.same("as told", x.book(0, 0, 0) * 10 + x.lamp(0, 2), 98);
        x.nights(1);
        Check.same("as told still", x.book(0, 0, 0) * 10 + x.book(0, 0, 2), 90);
        Check.same("behind 1, by the drop", x.book(1, 0, 0) * 10 + x.book(1, 0, 2), 71);
        x.drop(0, 0, 2);
        Check.same("no drop to come", x.book(1, 0, 0) * 10 + x.lamp(0, 2), 76);
        x.undo(1);
        x.nights(1);
        Check.same("the book anew", x.book(1, 0, 0) * 10 + x.book(1, 0, 2), 80);
    }

    // ---- 11: "A DROP is given now: true" ----

    private static void dropsOfEachOil() {
        for (int from = 0; from < 3; from++) {
            for (int to = 0; to < 3; to++) {
                if (from != to) {
                    LampValley x = Check.told("full 3;plain 0 1 1;widow 1 0 0;");
                    int[] oils = {1, 1, 1};
                    oils[from]--;
                    oils[to]++;
                    Check.same("a drop", x.drop(0, from, to), true);
                    Check.row("by " + from + " and " + to, Check.oils(x, 0), oils);
                    Check.row("of this lamp alone", Check.oils(x, 1), 0, 0, 3);
                    Check.same("none is left", x.drop(0, from, to), false);
                    Check.row("as it was", Check.oils(x, 0), oils);
                    Check.same("no night went by", x.count(7) * 10 + x.count(11), 1);
                }
            }
        }
        LampValley one = Check.told("full 1;plain 0 1 0;");
        Check.same("its only part", one.drop(0, 0, 1), true);
        Check.same("and back", one.drop(0, 1, 0), true);
        Check.row("as told", Check.oils(one, 0), 1, 0, 0);
        LampValley full = Check.told("full 30;plain 0 1 0;");
        Check.same("all 30 of one", full.drop(0, 0, 2), true);
        Check.row("all blue", Check.oils(full, 0), 0, 0, 30);
    }

    // "False (STATUS 1): the LAMP is OUT, it has none of the first OIL"
    private static void dropsRefused() {
        LampValley x = Check.told("full 3;plain 0 3 0;plain 1 3 0;plain 0 0 3;");
        Check.same("none of it", x.drop(2, 0, 1), false);
        x.nights(1);
        String lamps = Check.lookAtLamps(x);
        int refused = 1;
        for (int lamp = 0; lamp < 2; lamp++) {
            Check.same("it is out", x.drop(lamp, 0, 1), false);
            Check.same("it is out and has none of it", x.drop(lamp, 1, 0), false);
            refused += 2;
            Check.same("status 1", x.count(11), refused);
        }
        Check.same("all stays", Check.lookAtLamps(x), lamps);
        Check.same("one who isn't out", x.drop(2, 1, 0), true);
        Check.same("no more refused", x.count(11), refused);
        x.undo(1);
        Check.same("out no more", x.drop(0, 0, 1), true);
    }

    // "NoSuchElementException: also no such OILS, or both are one"
    private static void dropsThatCantBe() {
        LampValley x = Check.told("full 3;plain 0 1 1;plain 1 1 1;plain 0 3 0;");
        x.nights(1);
        String all = Check.look(x);
        for (int lamp = 0; lamp < 3; lamp++) {
            int asked = lamp;
            for (int oil : new int[] {-1, 3, 4, Integer.MIN_VALUE, Integer.MAX_VALUE}) {
                Check.noSuch("from " + oil, () -> x.drop(asked, oil, 0));
                Check.noSuch("to " + oil, () -> x.drop(asked, 0, oil));
                Check.noSuch("both " + oil, () -> x.drop(asked, oil, oil));
            }
            for (int oil = 0; oil < 3; oil++) {
                int one = oil;
                Check.noSuch("both are one", () -> x.drop(asked, one, one));
            }
        }
        for (int lamp : new int[] {-1, 3, 6, Integer.MIN_VALUE, Integer.MAX_VALUE}) {
            Check.noSuch("lamp " + lamp, () -> x.drop(lamp, 0, 1));
        }
        Check.same("nothing changes, nothing is refused", Check.look(x), all);
    }
}
