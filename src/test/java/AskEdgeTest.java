import java.math.BigInteger;

/** The edges that promises 12 to 21 name, sentence by sentence; the document's words are quoted. */
public final class AskEdgeTest {
    private static final int[] NO_WHATS = {-1, 2, 3, Integer.MIN_VALUE, Integer.MAX_VALUE};
    private static final int[] NO_LAMPS = {-1, 6, 7, 31, 32, 64, Integer.MIN_VALUE, Integer.MAX_VALUE};
    private static final String SIX = "plain 0 12 0;plain 1 11 0;plain 0 0 12;plain 1 0 10;plain 0 2 0;plain 1 0 4;";
    /** Three children, each three parts from the widow that it likes, and far from all else. */
    private static final String CHILDREN = "plain 0 9 3;widow 1 12 0;plain 0 0 9;widow 1 0 12;plain 0 3 0;widow 1 0 0;"
            + "likes 0 1;likes 2 3;likes 4 5;";

    private AskEdgeTest() {
    }

    public static void main(String[] args) {
        endFromNight100On();
        endByAnEvenNumber();
        endByAllColours();
        endFromNowOn();
        endWhats();
        halfStepsCutUp();
        noGreenInC();
        noGreenInD();
        matchesByEaster();
        matchesWaitForLateFog();
        matchesIllegal();
        motherOfEachDrop();
        motherOfLikeOnes();
        motherWithoutOil();
        motherUpToEaster();
        motherOfOneWhoIsOut();
        mothersFigures();
        mothersRowsThatRest();
        mothersIllegal();
        mayWithoutABook();
        mayByWhoWasOut();
        mayOfOneWhoIsHeldOrOut();
        tellsOneNightAlone();
        tellsUpToEaster();
        tooNearEnds();
        yearsByAnySeed();
        yearsByEachDraw();
        yearsAsTold();
        yearsRefused();
        images();
        imageKeepsStatusAndBook();
        asksChangeNothing();
        Check.finish("AskEdgeTest");
    }

    // ---- 12: "to the dusk of NIGHT 100, and on" ----

    private static void ends(String text, int round, int alone) {
        LampValley x = Check.told(text);
        Check.same("end of " + text, x.end(0) + " " + x.end(1), round + " " + alone);
    }

    private static void endFromNight100On() {
        // FOG of NIGHT 99 sends 0 away, 3 follows it and 4 follows 3: the dusk of NIGHT 99
        // comes again in NIGHT 103, four NIGHTS behind it, but it lies ahead of NIGHT 100.
        ends("full 6;plain 0 0 6;plain 0 0 6;plain 0 6 0;plain 0 0 6;plain 0 0 6;likes 0 1;likes 3 0;likes 4 3;"
                + "fog 99 0 1;fog 99 0 3;fog 99 0 4;", 2, 31);
        // FOG of NIGHT 99 brings a couple together: 0 is led to 2.
        ends("full 6;plain 0 0 6;plain 0 0 6;plain 1 1 5;likes 0 1;fog 99 0 1;", 2, 2);
        // As a search in another language has it: the longest way to the round, up to the dusk of NIGHT 330.
        ends("full 30;shy 1 30 0;drunk 1 4 16;shy 1 24 4;shy 1 22 8;shy 1 30 0;shy 1 11 4;step 9;near 3;"
                + "likes 0 4;likes 1 2;likes 2 5;likes 3 0;likes 4 1;likes 5 3;", 30, 63);
    }

    // "by an even number of NIGHTS ahead" - "(2 or more)"
    private static void endByAnEvenNumber() {
        ends("full 9;plain 0 9 0;plain 1 0 0;", 2, 3);
        ends("full 1;drunk 0 1 0;", 6, 1);
        ends("full 5;plain 0 5 0;plain 1 0 5;likes 0 1;likes 1 0;step 5;", 2, 3);
        ends("full 1;plain 0 1 0;plain 0 0 1;plain 0 0 0;likes 0 1;likes 1 2;likes 2 0;", 6, 7);
        ends("full 1;drunk 0 1 0;drunk 1 1 0;", 2, 0);
        ends("full 9;plain 0 9 0;plain 1 9 0;plain 0 0 9;", 2, 4);
    }

    // "till all LAMPS are (and are OUT) as they were": two colours are never taken for one
    private static void endByAllColours() {
        // A drunk one that likes none goes round in three NIGHTS, however the others stand.
        for (int full = 1; full <= 30; full++) {
            for (int place = 0; place < 6; place++) {
                StringBuilder text = new StringBuilder("full " + full + ";");
                for (int lamp = 0; lamp < 6; lamp++) {
                    int red = (full + 7 * lamp) % (full + 1);
                    int green = (5 * lamp + place) % (full - red + 1);
                    text.append(lamp == place ? "drunk 0 " : "plain 0 ").append(red).append(' ').append(green).append(';');
                }
                ends(text.toString(), 6, 63);
            }
        }
        ends("full 30;drunk 1 27 2;shy 1 20 2;", 6, 3);
        ends("full 24;drunk 0 10 9;shy 0 9 8;", 6, 3);
        ends("full 3;shy 0 2 1;drunk 0 2 1;", 6, 3);
        // Three who come to one another's places, two of them every other NIGHT.
        ends("full 27;step 3;shy 0 0 26;shy 0 12 12;bold 0 15 3;likes 0 1;likes 1 2;likes 2 0;", 4, 7);
    }

    // "THE END, from now on, EASTER or not"
    private static void endFromNowOn() {
        String late = "full 30;easter 1;plain 0 30 0;widow 1 0 30;likes 0 1;";
        ends(late, 2, 0);
        LampValley x = Check.told(late);
        x.nights(1);
        Check.same("at easter", x.end(0) + " " + x.end(1), "2 0");
        LampValley odd = Check.told("full 5;plain 0 5 0;plain 1 0 5;likes 0 1;likes 1 0;easter 99;");
        Check.same("they never meet", odd.end(1), 3);
        odd.nights(99);
        Check.same("nor in night 99", odd.end(1), 3);
        Check.row("where 1 was the night ahead", Check.oils(odd, 0), 2, 3, 0);
        odd.drop(0, 1, 0);
        Check.same("but by a drop they do", odd.end(1), 0);
        LampValley drop = Check.told("full 5;plain 0 5 0;plain 1 0 5;likes 0 1;likes 1 0;");
        drop.drop(0, 0, 1);
        Check.same("they meet by a drop", drop.end(1), 0);
    }

    private static void endWhats() {
        LampValley x = Check.told(SIX);
        for (int what : NO_WHATS) {
            Check.noSuch("end(" + what + ")", () -> x.end(what));
        }
    }

    // ---- 13: "STEP is half of it, cut up (a bold one's twice that)" ----

    private static int matchesAt(String kind, int step, int parts, int laws) {
        return Check.told("full 30;easter 1;step " + step + ";" + kind + " 0 30 0;plain 1 " + (30 - parts) + " 0;likes 0 1;")
                .matches(laws);
    }

    private static void halfStepsCutUp() {
        int[] half = {0, 1, 1, 2, 2, 3, 3, 4, 4, 5};
        for (int step = 1; step <= 9; step++) {
            for (int laws = 0; laws <= 3; laws++) {
                int parts = laws % 2 == 0 ? step : half[step];
                String by = "step " + step + " by laws " + laws;
                Check.same(by, matchesAt("plain", step, parts, laws), 1);
                Check.same(by + ", too far", matchesAt("plain", step, parts + 1, laws), 0);
                Check.same(by + ", bold", matchesAt("bold", step, 2 * parts, laws), 1);
                Check.same(by + ", bold, too far", matchesAt("bold", step, 2 * parts + 1, laws), 0);
            }
        }
    }

    private static void matched(String text, int... due) {
        LampValley x = Check.told(text);
        int[] got = {x.matches(0), x.matches(1), x.matches(2), x.matches(3)};
        Check.row("matches of " + text, got, due);
    }

    // "no part goes to green ((c) ends, where it would"
    private static void noGreenInC() {
        matched("full 6;plain 0 6 0;plain 1 0 6;likes 0 1;", 1, 1, 0, 0);
        // Green and blue lack alike: green's turn comes first, and it ends at once.
        matched("full 6;near 4;plain 0 6 0;plain 1 2 2;likes 0 1;", 1, 1, 1, 1);
        matched("full 6;near 3;plain 0 6 0;plain 1 2 2;likes 0 1;", 1, 1, 0, 0);
        // From 6 0 0 towards 2 1 3 two parts go to blue, be it in one NIGHT or in two.
        for (String step : new String[] {"step 1;", "step 9;"}) {
            matched("full 6;near 2;plain 0 6 0;plain 1 2 1;likes 0 1;" + step, 1, 1, 1, 1);
            matched("full 6;near 1;plain 0 6 0;plain 1 2 1;likes 0 1;" + step, 1, 1, 0, 0);
        }
        // From green any part may go.
        matched("full 6;plain 0 0 6;plain 1 3 0;likes 0 1;", 1, 1, 1, 1);
    }

    // "(d) isn't done, where it would)"
    private static void noGreenInD() {
        matched("full 6;easter 1;drunk 0 6 0;plain 1 6 0;", 0, 0, 1, 1);
        matched("full 6;easter 1;drunk 0 6 0;plain 1 5 1;", 1, 1, 0, 0);
        matched("full 6;easter 1;drunk 0 3 3;plain 1 3 3;", 0, 0, 1, 1);
        matched("full 6;easter 1;drunk 0 0 6;plain 1 0 5;", 1, 1, 1, 1);
        matched("full 6;easter 1;drunk 0 0 0;plain 1 1 0;", 1, 1, 1, 1);
        // (c) ends by the law, (d) is done: 0 0 6 to 1 0 5, where 2 stands.
        matched("full 6;easter 1;drunk 0 0 0;plain 0 0 6;plain 1 1 0;likes 0 1;", 0, 0, 1, 1);
    }

    // "how many couples are married by EASTER .. (those that are married now, too)"
    private static void matchesByEaster() {
        String text = "full 9;plain 0 9 0;plain 1 9 0;plain 0 0 9;plain 1 0 6;likes 3 2;easter ";
        int[] due = {0, 1, 1, 2, 2};
        for (int easter = 1; easter <= 4; easter++) {
            LampValley x = Check.told(text + easter + ";");
            Check.same("by easter " + easter, x.matches(0), due[easter]);
            Check.same("no night goes by", x.count(7) + x.count(8), 0);
            x.nights(1);
            Check.same("from now on", x.matches(0), due[easter]);
            Check.same("by no green the widowed ones stay", x.matches(2), 1);
            x.nights(easter - 1);
            for (int laws = 0; laws <= 3; laws++) {
                Check.same("at easter", x.matches(laws), x.count(8));
            }
        }
    }

    private static void matchesWaitForLateFog() {
        // All is still till FOG sends 0 to 2.
        String still = "full 6;plain 0 6 0;plain 0 6 0;plain 1 5 0;likes 0 1;";
        matched(still, 0, 0, 0, 0);
        matched(still + "fog 20 0 1;fog 3 2 1;", 1, 1, 1, 1);
        matched(still + "fog 3 2 1;fog 20 0 1;fog 4 2 1;", 1, 1, 1, 1);
        matched(still + "fog 39 0 1;", 1, 1, 1, 1);
        matched(still + "fog 40 0 1;", 0, 0, 0, 0);
        matched(still + "fog 0 0 1;", 1, 1, 1, 1);
        // FOG of NIGHT 1 keeps a shy one; its next NIGHT is the third.
        matched("full 2;shy 0 2 0;plain 1 1 0;likes 0 1;fog 1 0 1;", 1, 1, 1, 1);
        matched("full 2;shy 0 2 0;plain 1 1 0;likes 0 1;fog 1 0 1;easter 4;", 1, 1, 1, 1);
        matched("full 2;shy 0 2 0;plain 1 1 0;likes 0 1;fog 1 0 1;easter 3;", 0, 0, 0, 0);
    }

    private static void matchesIllegal() {
        LampValley x = Check.told(SIX);
        for (int laws : new int[] {-1, 4, 5, 8, Integer.MIN_VALUE, Integer.MAX_VALUE}) {
            Check.illegal("matches(" + laws + ")", () -> x.matches(laws));
        }
    }

    // ---- 14: "numbered 3 by the first and the second" ----

    private static void mothered(String text, int lamp, int drop, int night) {
        LampValley x = Check.told(text);
        Check.same("mother of " + lamp + " in " + text, x.mother(lamp, 0) + " " + x.mother(lamp, 1), drop + " " + night);
    }

    private static void motherOfEachDrop() {
        String[] all = {" 3 0;", " 0 3;", " 0 0;"};
        for (int from = 0; from < 3; from++) {
            for (int to = 0; to < 3; to++) {
                if (from != to) {
                    String text = "full 3;plain 0" + all[from] + "plain 1" + all[to] + "likes 0 1;";
                    mothered(text, 0, 3 * from + to, 1);
                    // A widow's mother may bring her nearer, too.
                    String widow = "full 3;widow 0" + all[from] + "plain 1" + all[to] + "likes 0 1;likes 1 0;";
                    mothered(widow, 0, 3 * from + to, 1);
                }
            }
        }
    }

    // "of like ones none, then the least number"
    private static void motherOfLikeOnes() {
        mothered("full 3;plain 0 3 0;plain 1 3 0;likes 0 1;", 0, -1, 0);
        mothered("full 3;plain 0 2 1;plain 1 3 0;likes 0 1;", 0, -1, 0);
        mothered("full 5;plain 0 2 2;plain 1 0 5;likes 0 1;", 0, 1, 1);
        mothered("full 6;plain 0 2 2;plain 1 6 0;likes 0 1;", 0, 3, 2);
        mothered("full 6;plain 0 6 0;plain 1 2 2;likes 0 1;", 0, 1, 2);
        mothered("full 6;near 9;plain 0 6 0;plain 1 2 2;likes 0 1;", 0, -1, 0);
    }

    private static void motherWithoutOil() {
        // Red to green and blue to green would do; there is no red.
        mothered("full 5;plain 0 0 2;plain 1 0 5;likes 0 1;", 0, 7, 1);
        mothered("full 5;plain 0 2 3;plain 1 0 5;likes 0 1;", 0, 1, 0);
        mothered("full 1;plain 0 0 0;plain 1 0 1;likes 0 1;", 0, -1, 0);
        // The widow holds it, but by a drop: blue to red lets it go to green itself.
        mothered("full 1;plain 0 0 0;widow 0 0 0;plain 1 0 1;likes 0 2;", 0, 6, 0);
    }

    // "(in whatever NIGHT up to EASTER)" - "NONE: never"
    private static void motherUpToEaster() {
        String far = "full 9;plain 0 9 0;plain 1 0 9;likes 0 1;easter ";
        mothered(far + "9;", 0, 1, 7);
        mothered(far + "8;", 0, 1, 7);
        mothered(far + "7;", 0, -1, -1);
        mothered(far + "1;", 0, -1, -1);
        LampValley x = Check.told(far + "9;");
        x.nights(3);
        Check.same("from now on", x.mother(0, 0) + " " + x.mother(0, 1), "1 7");
        x.drop(0, 0, 1);
        Check.same("one drop more", x.mother(0, 0) + " " + x.mother(0, 1), "1 6");
        x.nights(5);
        Check.same("she is out", x.mother(0, 0) + " " + x.mother(0, 1), "-1 -1");
        LampValley at = Check.told(far + "7;");
        at.nights(7);
        Check.same("at easter", at.mother(0, 0) + " " + at.mother(0, 1), "-1 -1");
    }

    // "or it is OUT, or LIKES none"
    private static void motherOfOneWhoIsOut() {
        // 0 can't overtake 1, who goes to 2.
        mothered("full 9;plain 0 9 0;plain 1 9 0;plain 0 0 9;likes 0 1;likes 1 2;", 0, -1, -1);
        mothered("full 9;plain 0 9 0;plain 0 9 0;likes 0 1;", 0, -1, -1);
        LampValley y = Check.told("full 9;plain 0 9 0;plain 1 9 0;plain 0 0 9;likes 0 1;");
        y.nights(1);
        Check.same("out, by whom it likes", y.mother(0, 0) + " " + y.mother(0, 1), "-1 -1");
        Check.same("out, likes none", y.mother(1, 0) + " " + y.mother(1, 1), "-1 -1");
        Check.same("likes none", y.mother(2, 0) + " " + y.mother(2, 1), "-1 -1");
        LampValley six = Check.told(SIX);
        for (int lamp = 0; lamp < 6; lamp++) {
            int asked = lamp;
            for (int what : NO_WHATS) {
                Check.noSuch("mother, what " + what, () -> six.mother(asked, what));
            }
        }
        for (int lamp : NO_LAMPS) {
            Check.noSuch("mother(" + lamp + ", 0)", () -> six.mother(lamp, 0));
            Check.noSuch("mother(" + lamp + ", 2)", () -> six.mother(lamp, 2));
        }
    }

    // ---- 15: "figures to the base 10 (0: none, else the DROP and 1), the least LAMP's highest" ----

    private static void mothersFigures() {
        LampValley x = Check.told(CHILDREN);
        int[] bits = {1, 4, 16, 5, 17, 20, 21};
        int[] first = {4, 8, 3, 48, 43, 83, 483};
        for (int i = 0; i < bits.length; i++) {
            Check.same("one row of " + bits[i], x.mothers(bits[i], 0), 1);
            Check.same("first row of " + bits[i], x.mothers(bits[i], 1), first[i]);
        }
        // A widow who likes none is content with all.
        Check.same("widow 1 and child 4", x.mothers(18, 1), 3);
        Check.same("child 4 and widow 5", Check.told(CHILDREN.replace("plain 0 3 0", "plain 0 1 0")).mothers(48, 1), 0);
        // By widow 3's green to red, blue to red brings child 2 as near as blue to green.
        Check.same("child 2 and widow 3", x.mothers(12, 1), 74);
    }

    // "A ROW of DROPS RESTS, if no mother has it sooner by another DROP or none" - "(never is behind all)"
    private static void mothersRowsThatRest() {
        // A full lamp of one oil: none and two drops; of two oils: none and four; of three: none and six.
        String far = "full 9;easter 1;plain 0 9 0;plain 0 0 5;plain 0 3 3;widow 1 0 0;";
        int[] choices = {3, 5, 7};
        LampValley x = Check.told(far);
        for (int bits = 1; bits < 8; bits++) {
            int rows = 1;
            for (int lamp = 0; lamp < 3; lamp++) {
                rows *= (bits >> lamp & 1) != 0 ? choices[lamp] : 1;
            }
            Check.same("all rows rest", x.mothers(bits, 0) + " " + x.mothers(bits, 1), rows + " 0");
        }
        // Both want each other: whoever gives, the other one must not.
        LampValley odd = Check.told("full 3;plain 0 3 0;plain 1 0 3;likes 0 1;likes 1 0;");
        Check.same("three rows", odd.mothers(3, 0) + " " + odd.mothers(3, 1), "3 4");
        LampValley none = Check.told("full 1;shy 1 1 0;shy 1 1 0;shy 0 0 0;likes 0 2;likes 1 0;likes 2 1;");
        Check.same("no row rests", none.mothers(7, 0) + " " + none.mothers(7, 1), "0 -1");
        // Married in NIGHT 0 by none; red to green or to blue, and back by a step, does as well.
        LampValley met = Check.told("full 1;plain 0 1 0;plain 1 1 0;likes 0 1;");
        Check.same("all three", met.mothers(1, 0) + " " + met.mothers(1, 1), "3 0");
        LampValley held = Check.told("full 9;fright 1;plain 0 9 0;widow 1 9 0;likes 0 1;");
        Check.same("by none alone", held.mothers(1, 0) + " " + held.mothers(1, 1), "1 0");
    }

    // "IllegalArgumentException (behind that): bits of LAMPS that there aren't, or are OUT, none, more than 3"
    private static void mothersIllegal() {
        LampValley x = Check.told("full 9;plain 0 9 0;plain 1 9 0;plain 0 0 9;plain 0 0 8;plain 0 0 7;");
        Check.same("two who aren't out yet", x.mothers(3, 0) > 0, true);
        x.nights(1);
        Check.same("three of them", x.mothers(28, 0), 75);
        int[] illegal = {0, 1, 2, 3, 5, 6, 7, 29, 30, 31, 32, 36, 60, 64, 68, 1 << 30, -1, -4, Integer.MIN_VALUE,
            Integer.MIN_VALUE + 4, Integer.MAX_VALUE};
        for (int lamps : illegal) {
            Check.illegal("mothers(" + lamps + ", 0)", () -> x.mothers(lamps, 0));
            Check.illegal("mothers(" + lamps + ", 1)", () -> x.mothers(lamps, 1));
            for (int what : NO_WHATS) {
                Check.noSuch("mothers(" + lamps + ", " + what + ")", () -> x.mothers(lamps, what));
            }
        }
        for (int what : NO_WHATS) {
            Check.noSuch("mothers(4, " + what + ")", () -> x.mothers(4, what));
        }
        LampValley six = Check.told(SIX);
        for (int lamps = 1; lamps < 64; lamps++) {
            int asked = lamps;
            if (Integer.bitCount(lamps) > 3) {
                Check.illegal("more than three", () -> six.mothers(asked, 0));
            } else if (Integer.bitCount(lamps) < 3) {
                Check.same("no more than three", six.mothers(asked, 0) > 0, true);
            }
        }
    }

    // ---- 16: "as bits; 64: none may, too" ----

    private static void mayWithoutABook() {
        Check.same("one lamp", Check.told("plain 0 0 0;").may(0), 64);
        LampValley x = Check.told(SIX);
        for (int lamp = 0; lamp < 6; lamp++) {
            Check.same("all but itself", x.may(lamp), 127 - (1 << lamp));
        }
        for (int lamp : NO_LAMPS) {
            Check.noSuch("may(" + lamp + ")", () -> x.may(lamp));
        }
        LampValley one = Check.told("drunk 0 0 0;easter 99;");
        one.nights(99);
        Check.same("99 nights of one lamp", one.may(0), 64);
    }

    // "(as all others were then, FOG, who was OUT)"
    private static void mayByWhoWasOut() {
        // 1 and 2 marry in NIGHT 0; 0 is shy and would go to 3 in NIGHT 1.
        LampValley x = Check.told("full 6;shy 0 6 0;plain 0 0 6;plain 1 0 6;plain 1 0 0;likes 0 1;");
        x.nights(1);
        Check.same("a shy one's night", x.may(0), 78);
        x.nights(1);
        Check.same("who was out, or none", x.may(0), 70);
        x.nights(20);
        Check.same("no more is told", x.may(0), 70);
        // OUT later on doesn't count for a NIGHT ahead of it.
        LampValley late = Check.told("full 6;plain 0 6 0;plain 0 0 6;plain 1 0 4;likes 0 1;likes 2 1;");
        late.nights(1);
        int first = late.may(0);
        late.nights(3);
        Check.same("married since", late.lamp(1, 6), 2);
        Check.same("by night 0", first, 6);
        Check.same("as it was then", late.may(0), 6);
        // Drops: as all others were at dusk.
        LampValley drop = Check.told("full 6;plain 0 4 2;plain 0 4 2;plain 1 0 0;likes 0 1;");
        drop.drop(1, 0, 1);
        drop.nights(1);
        Check.same("towards the drop", drop.may(0), 2);
    }

    private static void mayOfOneWhoIsHeldOrOut() {
        LampValley held = Check.told("full 6;fright 2;plain 0 6 0;widow 0 5 0;plain 1 0 0;likes 0 2;");
        held.nights(9);
        Check.same("held", held.may(0), 70);
        Check.same("a widow", held.may(1), 69);
        LampValley wed = Check.told("full 6;plain 0 6 0;plain 1 6 0;plain 0 0 0;likes 0 2;near 1;");
        wed.nights(1);
        int first = wed.may(0);
        wed.nights(9);
        Check.same("out, it tells no more", wed.may(0), first);
        Check.same("what its one night told", first, 4);
        LampValley fog = Check.told("full 6;plain 0 6 0;plain 0 0 6;likes 0 1;fog 0 0 1;");
        fog.nights(1);
        Check.same("hidden", fog.may(0), 66);
        fog.nights(1);
        Check.same("seen", fog.may(0), 2);
        LampValley alike = Check.told("full 6;plain 0 6 0;plain 0 6 0;plain 0 6 0;plain 0 5 0;likes 0 1;");
        alike.nights(5);
        Check.same("just as they are", alike.may(0), 70);
    }

    // ---- 17: "had THE BOOK that NIGHT too (it alone besides what it has); of like ones the first" ----

    private static void telling(LampValley x, int lamp, int night, int left) {
        Check.same("tells of " + lamp, x.tells(lamp, 0) + " " + x.tells(lamp, 1), night + " " + left);
    }

    private static void tellsOneNightAlone() {
        // NIGHT 0 can't tell 2 from 1, NIGHT 1 can't tell 3 from 1.
        LampValley x = Check.told("easter 2;plain 0 12 0;plain 0 6 6;plain 0 3 0;plain 0 0 0;likes 0 1;fog 0 0 2;fog 1 0 3;");
        telling(x, 0, 0, 2);
        x.nights(1);
        Check.same("by night 0", x.may(0), 6);
        telling(x, 0, 1, 1);
        x.nights(1);
        Check.same("by both", x.may(0), 2);
        telling(x, 0, -1, -1);
        // None is counted: a widow leaves all others and none.
        telling(Check.told("widow 0 0 0;"), 0, 0, 1);
        telling(Check.told("widow 0 0 0;plain 0 1 1;plain 0 2 2;plain 0 3 3;plain 0 4 4;plain 0 5 5;"), 0, 0, 6);
    }

    // "of NIGHTS to come (up to EASTER" - "NONE: no NIGHT is to come"
    private static void tellsUpToEaster() {
        String fog = "full 6;plain 0 6 0;plain 0 0 6;plain 0 0 0;likes 0 1;fog 0 0 1;fog 1 0 1;fog 2 0 1;easter ";
        telling(Check.told(fog + "4;"), 0, 3, 1);
        telling(Check.told(fog + "3;"), 0, 0, 2);
        telling(Check.told(fog + "1;"), 0, 0, 2);
        LampValley x = Check.told(fog + "4;");
        for (int night = 1; night <= 3; night++) {
            x.nights(1);
            telling(x, 0, 3, 1);
        }
        x.nights(1);
        telling(x, 0, -1, -1);
        telling(x, 2, -1, -1);
        x.undo(1);
        telling(x, 0, 3, 1);
        LampValley wed = Check.told("full 6;plain 0 6 0;plain 1 6 0;easter 5;");
        wed.nights(2);
        telling(wed, 0, 2, 2);
        LampValley six = Check.told(SIX);
        for (int lamp : NO_LAMPS) {
            Check.noSuch("tells(" + lamp + ", 0)", () -> six.tells(lamp, 0));
            Check.noSuch("tells(" + lamp + ", 2)", () -> six.tells(lamp, 2));
        }
        for (int what : NO_WHATS) {
            Check.noSuch("tells(5, " + what + ")", () -> six.tells(5, what));
            Check.noSuch("at easter, what " + what, () -> wed.tells(0, what));
        }
    }

    // ---- 18: "no further apart than a number of parts" - "parts are not 0 to 30" ----

    private static void tooNearEnds() {
        LampValley x = Check.told("full 30;plain 0 30 0;plain 0 0 30;plain 1 30 0;plain 1 29 1;");
        Check.same("0", x.near(0), 1);
        Check.same("1", x.near(1), 3);
        Check.same("28", x.near(28), 3);
        Check.same("29", x.near(29), 4);
        Check.same("30", x.near(30), 6);
        for (int parts : new int[] {-1, 31, 32, Integer.MIN_VALUE, Integer.MAX_VALUE}) {
            Check.illegal("near(" + parts + ")", () -> x.near(parts));
        }
        x.nights(1);
        Check.same("two are out", x.near(30) + " " + x.near(28), "1 0");
        Check.same("six", Check.told(SIX).near(30), 15);
        Check.same("none", Check.told("").near(30), 0);
        Check.same("one", Check.told("plain 0 0 0;").near(30), 0);
    }

    // ---- 19: "A seed becomes itself times 1103515245 and 12345 (an int that wraps)" ----

    /** So many DRAWS' bits 16 to 30, by numbers that don't wrap by themselves. */
    private static int[] draws(int seed, int count) {
        BigInteger now = BigInteger.valueOf(seed);
        int[] bits = new int[count];
        for (int i = 0; i < count; i++) {
            now = now.multiply(BigInteger.valueOf(1103515245)).add(BigInteger.valueOf(12345)).mod(BigInteger.TWO.pow(32));
            bits[i] = now.mod(BigInteger.TWO.pow(31)).divide(BigInteger.TWO.pow(16)).intValueExact();
        }
        return bits;
    }

    private static void yearsByAnySeed() {
        int[] seeds = {0, 1, -1, 5, 12345, 1 << 16, 1 << 31, Integer.MAX_VALUE, Integer.MIN_VALUE + 1, -1103515245};
        LampValley two = Check.told("plain 0 6 0;widow 1 0 6;widow 1 0 0;easter 12;");
        LampValley three = Check.told("plain 0 6 0;widow 1 0 6;widow 1 0 0;widow 1 6 6;easter 12;");
        for (int seed : seeds) {
            int[] draws = draws(seed, 40);
            int[] aloneOfTwo = new int[3];
            int[] aloneOfThree = new int[4];
            for (int year = 1; year <= 40; year++) {
                for (int widow = 1; widow <= 3; widow++) {
                    aloneOfThree[widow] += draws[year - 1] % 3 == widow - 1 ? 0 : 1;
                    if (widow < 3) {
                        aloneOfTwo[widow] += draws[year - 1] % 2 == widow - 1 ? 0 : 1;
                    }
                }
                if (year % 13 == 1) {
                    Check.same("1 of two, seed " + seed, two.years(1, seed, year), aloneOfTwo[1]);
                    Check.same("2 of two, seed " + seed, two.years(2, seed, year), aloneOfTwo[2]);
                    Check.same("3 of three, seed " + seed, three.years(3, seed, year), aloneOfThree[3]);
                }
            }
        }
    }

    /** How often the DRAWS first, first + step .. of 2 come to that. */
    private static int howOften(int[] draws, int first, int step, int due) {
        int count = 0;
        for (int i = first; i < draws.length; i += step) {
            count += draws[i] % 2 == due ? 1 : 0;
        }
        return count;
    }

    // "each that is no widow LIKES one of the other SIDE (a DRAW of how many there are ..), the least LAMP first"
    private static void yearsByEachDraw() {
        int[] pairs = draws(77, 80);
        // Lamp 0's DRAW is the first of two a year: 1 reaches nobody by EASTER.
        LampValley first = Check.told("plain 0 12 0;plain 0 0 12;widow 1 4 0;widow 1 7 5;easter 6;");
        Check.same("the least lamp first", first.years(3, 77, 40), howOften(pairs, 0, 2, 0));
        LampValley second = Check.told("plain 0 0 12;plain 0 12 0;widow 1 4 0;widow 1 7 5;easter 6;");
        Check.same("then the next", second.years(3, 77, 40), howOften(pairs, 1, 2, 0));
        // Widows ahead have no DRAW.
        LampValley widows = Check.told("widow 1 4 0;widow 1 7 5;plain 0 12 0;easter 6;");
        Check.same("no draw of a widow", widows.years(1, 77, 40), howOften(draws(77, 40), 0, 1, 0));
        // A DRAW of 1 is one, too: 2 draws of lamp 0 alone.
        LampValley one = Check.told("full 9;plain 0 9 0;widow 1 0 9;plain 1 0 0;easter 9;");
        Check.same("a draw of one", one.years(1, 77, 40), howOften(pairs, 0, 2, 1));
        // 1 and 2 are OUT by NIGHT 0; lamp 0's year goes on.
        LampValley long0 = Check.told("plain 0 12 0;widow 0 0 12;widow 1 0 12;widow 1 0 0;easter 12;");
        Check.same("its year goes on", long0.years(0, 77, 40), howOften(draws(77, 40), 0, 1, 0));
        LampValley alone = Check.told("plain 1 5 5;plain 1 5 5;drunk 1 5 5;");
        Check.same("none of the other side", alone.years(2, 77, 40), 40);
    }

    // "all LAMPS as told" - "NIGHTS up to EASTER"
    private static void yearsAsTold() {
        String text = "full 4;near 0;plain 0 4 0;widow 1 2 2;easter ";
        Check.same("just by easter", Check.told(text + "2;").years(0, 9, 40), 0);
        Check.same("a night too few", Check.told(text + "1;").years(0, 9, 40), 40);
        LampValley x = Check.told(text + "2;");
        x.drop(0, 0, 2);
        x.drop(1, 0, 2);
        x.nights(2);
        x.drop(0, 0, 2);
        Check.same("as told, not as now", x.years(0, 9, 7), 0);
        Check.same("fog as told", Check.told(text + "2;fog 0 0 1;").years(1, 9, 7), 7);
        LampValley wed = Check.told("full 4;plain 0 4 0;plain 1 4 0;");
        wed.nights(1);
        Check.same("married each year anew", wed.years(1, 9, 40), 0);
        // As told means SIDES, not LIKES: 0 goes to 2, whom it doesn't LIKE as told.
        LampValley likes = Check.told("full 4;plain 0 4 0;plain 0 0 0;widow 1 3 1;likes 0 1;");
        Check.same("likes by draws", likes.years(2, 9, 40), 0);
    }

    // "YEARS (0 to 40)" - "IllegalArgumentException (behind NoSuchElementException): how many"
    private static void yearsRefused() {
        LampValley x = Check.told(SIX);
        Check.same("no years", x.years(0, 1, 0) + x.years(5, -1, 0), 0);
        Check.same("40 years", Check.told("plain 0 0 0;").years(0, 1, 40), 40);
        for (int years : new int[] {-1, 41, 42, Integer.MIN_VALUE, Integer.MAX_VALUE}) {
            Check.illegal("years(5, 1, " + years + ")", () -> x.years(5, 1, years));
            for (int lamp : NO_LAMPS) {
                Check.noSuch("years(" + lamp + ", 1, " + years + ")", () -> x.years(lamp, 1, years));
            }
        }
        for (int lamp : NO_LAMPS) {
            Check.noSuch("years(" + lamp + ", 1, 0)", () -> x.years(lamp, 1, 0));
        }
    }

    // ---- 20, 21: "AN IMAGE is kept, in place of another one" - "False: there is none" ----

    private static void images() {
        LampValley x = Check.told("full 9;plain 0 9 0;plain 1 5 4;likes 0 1;easter 9;");
        String told = Check.look(x);
        Check.same("none yet", x.restore(), false);
        Check.same("nothing changes", Check.look(x), told);
        x.image();
        Check.same("restored at once", x.restore(), true);
        Check.same("as it was", Check.look(x), told);
        for (int i = 0; i < 3; i++) {
            x.drop(0, 0, 2);
            x.nights(5);
            Check.same("again and again", x.restore(), true);
            Check.same("as told", Check.look(x), told);
        }
        x.nights(4);
        Check.same("married", x.count(8), 1);
        String wed = Check.look(x);
        x.image();
        x.undo(9);
        Check.same("the latest", x.restore(), true);
        Check.same("married again", Check.look(x), wed);
        Check.same("undone", x.undo(1), 1);
        Check.same("couples", x.count(8), 0);
        x.restore();
        Check.same("out", x.drop(0, 0, 1), false);
        Check.same("a fault", Check.tell(x, "x"), 1);
        Check.same("it stays behind a fault", x.restore(), true);
        Check.same("no fault", Check.tell(x, "plain 0 0 0;"), 0);
        Check.same("it is gone", x.restore(), false);
        Check.same("no lamps of it", x.count(1) * 10 + x.lamp(0, 4), 22);
        x.image();
        Check.same("another valley's", x.restore(), true);
    }

    // "AN IMAGE keeps LAMPS, the NIGHT, THE BOOK, STATUS"
    private static void imageKeepsStatusAndBook() {
        LampValley x = Check.told("full 9;plain 0 9 0;plain 0 0 9;plain 1 0 0;likes 0 1;easter 9;");
        Check.tell(x, "x");
        x.drop(1, 0, 1);
        x.nights(10);
        x.drop(0, 0, 2);
        x.nights(3);
        x.drop(0, 0, 2);
        x.image();
        String all = Check.look(x) + x.may(0) + " " + x.may(1);
        x.undo(3);
        x.drop(0, 0, 1);
        x.drop(0, 0, 1);
        x.drop(1, 0, 1);
        x.nights(10);
        x.nights(9);
        Check.tell(x, "x");
        Check.row("otherwise now", Check.counts(x), 9, 3, 1, 0, 0, 9, 0, 9, 0, 0, 2, 2, 2);
        x.feed(0, 0, 0, 0, 0);
        Check.same("restored", x.restore(), true);
        Check.row("status as it was, the tape as it is", Check.counts(x), 9, 3, 1, 0, 0, 9, 0, 3, 0, 20, 1, 1, 1);
        x.valley(1);
        x.restore();
        Check.same("all as it was", Check.look(x) + x.may(0) + " " + x.may(1), all);
        Check.same("undone from there", x.undo(1), 1);
        Check.row("without the drop to come", Check.oils(x, 0), x.book(2, 0, 0), x.book(2, 0, 1), x.book(2, 0, 2));
    }

    private static void asksChangeNothing() {
        LampValley x = Check.told(CHILDREN + "fog 3 0 1;easter 20;");
        x.nights(1);
        x.drop(0, 0, 2);
        x.drop(0, 2, 1);
        x.nights(99);
        x.image();
        x.drop(2, 1, 0);
        String all = Check.look(x);
        for (int round = 0; round < 2; round++) {
            x.end(round);
            x.matches(round * 3);
            x.mothers(21, round);
            x.near(30 * round);
            for (int lamp = 0; lamp < 6; lamp++) {
                x.far(lamp, 5 - lamp);
                x.mother(lamp, round);
                x.may(lamp);
                x.tells(lamp, round);
                x.years(lamp, round, 3);
            }
            Check.same("all as it was", Check.look(x), all);
        }
        LampValley same = Check.told(CHILDREN + "fog 3 0 1;easter 20;");
        same.nights(1);
        same.drop(0, 0, 2);
        same.drop(0, 2, 1);
        same.nights(99);
        same.drop(2, 1, 0);
        x.nights(9);
        same.nights(9);
        Check.same("and goes on as if none had asked", Check.look(x), Check.look(same));
        Check.same("the image, too", x.restore(), true);
        Check.same("without its later drop", x.lamp(2, 2), 0);
    }
}
