/** Promises 1 to 5: a new object, feed, valley with all FAULTS, fault, count. */
public final class TextTest {
    private static final String SIX = "plain 0 0 0;".repeat(6);

    private TextTest() {
    }

    public static void main(String[] args) {
        newObject();
        feeding();
        goodTexts();
        signsThatCantStand();
        tooMuch();
        lampsNotTold();
        outOfTurn();
        alike();
        whatValleyChanges();
        counting();
        Check.finish("TextTest");
    }

    private static void newObject() {
        LampValley x = new LampValley();
        Check.row("counts of a new object", Check.counts(x), 12, 0, 1, 0, 0, 40, 0, 0, 0, 0, 0, 0, 0);
        Check.same("fault of a new object", x.fault(), -1);
        Check.same("restore of a new object", x.restore(), false);
        Check.noSuch("lamp(0, 0) of a new object", () -> x.lamp(0, 0));
        Check.same("book of a new object has no lamp", Check.answerOf(() -> x.book(0, 0, 0)),
                "java.util.NoSuchElementException");
        Check.same("40 nights of a new object", x.nights(40), 0);
        Check.same("one night more", x.nights(1), -1);
    }

    private static void feeding() {
        LampValley x = new LampValley();
        for (int i = 1; i <= 25; i++) {
            Check.same("feed " + i, x.feed(0x20202020, 0x20202020, 0x20202020, 0x20202020, 0x20202020), 20 * i);
        }
        Check.same("feed 26", x.feed(0, 0, 0, 0, 0), -1);
        Check.same("bytes behind feed 26", x.count(9), 500);
        Check.same("500 blanks", x.valley(500), 0);
        Check.same("bytes behind valley", x.count(9), 0);
        Check.same("no status by feed", x.count(10) + x.count(11) + x.count(12), 0);
        // "step", " 7;n", "ear ", "3;\n ", "\n  \n"
        Check.same("feed anew", x.feed(0x73746570, 0x20373b6e, 0x65617220, 0x333b0a20, 0x0a20200a), 20);
        Check.same("all five numbers", x.valley(20), 0);
        Check.same("step fed", x.count(2), 7);
        Check.same("near fed", x.count(3), 3);
        x.feed(0x73746570, 0x20373bff, 0x65617220, 0x333b0a20, 0x0a20200a);
        Check.same("a byte of 255", x.valley(20) * 100 + x.fault(), 107);
        x.feed(0x80000000, 0, 0, 0, 0);
        Check.same("a byte of 128", x.valley(1) * 100 + x.fault(), 100);
    }

    private static void goodTexts() {
        LampValley x = Check.told("");
        Check.row("counts of an empty text", Check.counts(x), 12, 0, 1, 0, 0, 40, 0, 0, 0, 0, 0, 0, 0);
        Check.told(" \n \n");
        x = Check.told("full 30;step 9;near 9;fright 9;easter 99;plain 1 30 0;");
        Check.row("the most", Check.counts(x), 30, 1, 9, 9, 9, 99, 0, 0, 0, 0, 0, 0, 0);
        x = Check.told("full 1;step 1;near 0;fright 0;easter 1;");
        Check.row("the least", Check.counts(x), 1, 0, 1, 0, 0, 1, 0, 0, 0, 0, 0, 0, 0);
        x = Check.told("\n full007;plain1 02\n003;widow 0 0 7 ; likes 1 0;fog 00 0 1;fog 099 1 0;fog 0 0 1;");
        Check.row("no blanks needed, zeros ahead", Check.counts(x), 7, 2, 1, 0, 0, 40, 3, 0, 0, 0, 0, 0, 0);
        Check.row("lamp 0", lamps(x, 0), 0, 1, 2, 3, 2, -1, -1, -1);
        Check.row("lamp 1", lamps(x, 1), 4, 0, 0, 7, 0, 0, -1, -1);
        x = Check.told("plain 0 0 0;shy 1 1 1;bold 0 2 2;drunk 1 3 3;widow 0 4 4;plain 1 12 0;");
        for (int lamp = 0; lamp < 6; lamp++) {
            Check.same("kind " + lamp, x.lamp(lamp, 0), lamp % 5);
            Check.same("side " + lamp, x.lamp(lamp, 1), lamp % 2);
        }
        Check.row("oils by the full of 12", Check.oils(x, 3), 3, 3, 6);
        Check.told(SIX + "fog 0 0 1;".repeat(10));
    }

    private static int[] lamps(LampValley x, int lamp) {
        int[] answers = new int[8];
        for (int what = 0; what < 8; what++) {
            answers[what] = x.lamp(lamp, what);
        }
        return answers;
    }

    private static void refused(String text, int fault, int place) {
        LampValley x = new LampValley();
        Check.same("valley of " + text, Check.tell(x, text), fault);
        Check.same("fault of " + text, x.fault(), place);
        Check.row("counts behind " + text, Check.counts(x), 12, 0, 1, 0, 0, 40, 0, 0, 0, 0, 1, 0, 0);
    }

    private static void signsThatCantStand() {
        refused("x", 1, 0);
        refused(";", 1, 0);
        refused(" 4;", 1, 1);
        refused("full", 1, 4);
        refused("full ", 1, 5);
        refused("full 4", 1, 6);
        refused("full 4 \n", 1, 8);
        refused("full;", 1, 4);
        refused("full 4 4;", 1, 7);
        refused("full 4 1234;", 1, 7);
        refused("full x;", 1, 5);
        refused("full 4;;", 1, 7);
        refused("fulll 4;", 1, 0);
        refused("ful 4;", 1, 0);
        refused("fullstep 4;", 1, 0);
        refused("Full 4;", 1, 0);
        refused("fuLl 4;", 1, 0);
        refused("full\t4;", 1, 4);
        refused("full -4;", 1, 5);
        refused("full 4.;", 1, 6);
        refused("12345", 1, 0);
        refused("plain 0 0;", 1, 9);
        refused("plain 0 0 0", 1, 11);
        refused("plain 0 0 0 0;", 1, 12);
        refused("likes;", 1, 5);
        refused("fog 1;", 1, 5);
        refused("side 0;", 1, 0);
        refused("plainz 0 0 0;", 1, 0);
        refused("aplain 0 0 0;", 1, 0);
        refused("step 1;near", 1, 11);
        refused("`tep 1;", 1, 0);
        refused("{tep 1;", 1, 0);
        refused("step /;", 1, 5);
        refused("step :;", 1, 5);
    }

    private static void tooMuch() {
        refused("full 0;", 2, 5);
        refused("full 31;", 2, 5);
        refused("full 0012;", 2, 5);
        refused("full 4294967300;", 2, 5);
        refused("step 0;", 2, 5);
        refused("step 10;", 2, 5);
        refused("near 10;", 2, 5);
        refused("fright 10;", 2, 7);
        refused("easter 0;", 2, 7);
        refused("easter 100;", 2, 7);
        refused("plain 2 0 0;", 2, 6);
        refused("plain 0 13 0;", 2, 8);
        refused("plain 0 12 1;", 2, 11);
        refused("full 5;plain 0 6 0;", 2, 15);
        refused("full 5;plain 0 3 3;", 2, 17);
        refused(SIX + "widow", 2, 72);
        refused(SIX + "fog 100 0 1;", 2, 76);
        refused(SIX + "fog 0 0 1;".repeat(10) + "fog x", 2, 172);
        refused(SIX + "likes 0000 1;", 2, 78);
        refused(SIX + "likes 0 0000;", 2, 80);
    }

    private static void lampsNotTold() {
        refused("likes 0 1;", 3, 6);
        refused("plain 0 0 0;likes 0 1;plain 0 0 0;", 3, 20);
        refused("plain 0 0 0;likes 1 0;", 3, 18);
        refused(SIX + "likes 6 0;", 3, 78);
        refused(SIX + "likes 0 999;", 3, 80);
        refused("fog 0 0 1;", 3, 6);
        refused("plain 0 0 0;fog 0 0 1;", 3, 20);
    }

    private static void outOfTurn() {
        refused("full 4;full 4;", 4, 7);
        refused("step 1;full", 4, 7);
        refused("plain 0 0 0;full 4;", 4, 12);
        refused("step 1;step 1;", 4, 7);
        refused("near 1;step 1;near", 4, 14);
        refused("fright 1;fright 1;", 4, 9);
        refused("easter 1;\neaster 1;", 4, 10);
    }

    private static void alike() {
        refused(SIX + "likes 0 0;", 5, 80);
        refused(SIX + "likes 0 1;likes 0 2;", 5, 88);
        refused(SIX + "likes 0 1;likes 0 9;", 5, 88);
        refused(SIX + "fog 0 3 3;", 5, 80);
        Check.told(SIX + "likes 0 1;likes 1 0;likes 5 0;");
    }

    private static void whatValleyChanges() {
        LampValley x = Check.told("full 4;plain 0 4 0;plain 1 0 4;likes 0 1;easter 3;");
        x.nights(2);
        x.image();
        x.feed(0, 0, 0, 0, 0);
        Check.illegal("valley(-1)", () -> x.valley(-1));
        Check.illegal("valley(21)", () -> x.valley(21));
        Check.illegal("valley of the least int", () -> x.valley(Integer.MIN_VALUE));
        Check.row("counts behind what is illegal", Check.counts(x), 4, 2, 1, 0, 0, 3, 0, 2, 0, 20, 0, 0, 0);
        Check.same("a fault", x.valley(1), 1);
        Check.row("counts behind a fault", Check.counts(x), 4, 2, 1, 0, 0, 3, 0, 2, 0, 0, 1, 0, 0);
        Check.same("book behind a fault", x.book(1, 0, 0), 3);
        Check.same("fault", x.fault(), 0);
        Check.illegal("valley(1) of an empty tape", () -> x.valley(1));
        Check.same("fault stays", x.fault(), 0);
        Check.same("the image stays behind a fault", x.restore(), true);
        Check.same("status of the image", x.count(10), 0);
        Check.same("fault is of the latest valley()", x.fault(), 0);
        x.drop(1, 0, 1);
        x.nights(9);
        Check.same("a second fault", Check.tell(x, "full 4;full 4;"), 4);
        Check.same("a new valley", Check.tell(x, "plain 0 1 2;"), 0);
        Check.row("counts of a new valley", Check.counts(x), 12, 1, 1, 0, 0, 40, 0, 0, 0, 0, 1, 1, 1);
        Check.same("no fault", x.fault(), -1);
        Check.same("no image", x.restore(), false);
        Check.same("no likes", x.lamp(0, 5), -1);
        Check.same("a new book", x.book(0, 0, 1), 2);
        Check.noSuch("nothing of the old book", () -> x.book(1, 0, 0));
    }

    private static void counting() {
        LampValley x = Check.told("near 2;plain 0 0 0;plain 1 0 2;plain 0 12 0;plain 1 11 0;plain 1 0 12;");
        Check.same("couples in the first dusk", x.count(8), 0);
        x.nights(1);
        Check.same("couples", x.count(8), 2);
        Check.same("nights", x.count(7), 1);
        for (int what : new int[] {-1, 13, Integer.MIN_VALUE, Integer.MAX_VALUE}) {
            Check.noSuch("count(" + what + ")", () -> x.count(what));
        }
    }
}
