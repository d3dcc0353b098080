/** The edges that promises 1 to 5 name, sentence by sentence; the document's words are quoted. */
public final class TextEdgeTest {
    private static final int[] FAR_OUT = {-2, 99, 1 << 16, Integer.MIN_VALUE, Integer.MAX_VALUE};
    private static final int[] UNTOLD = {12, 0, 1, 0, 0, 40, 0, 0, 0, 0, 0, 0, 0};
    private static final String SIX = "plain 0 0 0;".repeat(6);
    private static final String RICH = "full 30;plain 0 1 2;shy 1 3 4;bold 0 5 6;likes 0 1;likes 1 2;likes 2 0;"
            + "step 9;near 9;fright 9;easter 99;fog 0 1 2;fog 98 2 1;";

    private TextEdgeTest() {
    }

    public static void main(String[] args) {
        newObjectHasNoLamps();
        newObjectAnswersAll();
        feedPutsTheHighestByteFirst();
        feedComesBehindTheTape();
        feedIsRefusedBeyond500();
        valleyTakesTheFirstBytes();
        valleyEmptiesTheTape();
        valleyIsAllAnew();
        valleyKeepsNothingOfAnOldText();
        valleyWithFaultChangesStatusAlone();
        valleyRefusesHowMany();
        faultIsOfTheLatestValley();
        countKnowsThirteen();
        rangesEnd();
        numbersHaveThreeDigits();
        oilsFillTheLamp();
        sixLamps();
        tenFogs();
        everyByte();
        textEndsTooSoon();
        textOf500Bytes();
        theLongestRow();
        theFirstFaultCounts();
        theLeastFaultOfOneToken();
        fullIsTheFirstLine();
        lampsAreToldAhead();
        likesAreToldOnce();
        Check.finish("TextEdgeTest");
    }

    private static void refused(String text, int fault, int place) {
        LampValley x = new LampValley();
        String shown = text.length() > 60 ? text.substring(0, 60) + ".." : text;
        Check.same("valley of " + shown, Check.tell(x, text), fault);
        Check.same("place in " + shown, x.fault(), place);
        Check.same("refused texts by " + shown, x.count(10), 1);
    }

    // ---- 1: "FULL 12, no LAMPS" ----

    private static void newObjectHasNoLamps() {
        LampValley x = new LampValley();
        Check.row("counts", Check.counts(x), UNTOLD);
        for (int lamp : new int[] {0, -1, 1, 5, 6}) {
            Check.noSuch("lamp", () -> x.lamp(lamp, 0));
            Check.noSuch("far", () -> x.far(lamp, lamp));
            Check.noSuch("book", () -> x.book(0, lamp, 0));
            Check.noSuch("drop", () -> x.drop(lamp, 0, 1));
            Check.noSuch("mother", () -> x.mother(lamp, 0));
            Check.noSuch("may", () -> x.may(lamp));
            Check.noSuch("tells", () -> x.tells(lamp, 0));
            Check.noSuch("years", () -> x.years(lamp, 1, 1));
            Check.illegal("mothers", () -> x.mothers(lamp, 0));
        }
        Check.row("nothing refused by that", Check.counts(x), UNTOLD);
    }

    private static void newObjectAnswersAll() {
        LampValley x = new LampValley();
        Check.same("fault", x.fault(), -1);
        Check.same("end", x.end(0) + " " + x.end(1), "2 0");
        Check.same("matches", x.matches(0) + x.matches(1) + x.matches(2) + x.matches(3), 0);
        Check.same("near", x.near(0) + x.near(30), 0);
        Check.same("undo", x.undo(1), 0);
        Check.same("no image yet", x.restore(), false);
        x.image();
        Check.same("nights up to easter", x.nights(40), 0);
        Check.same("none beyond", x.nights(1), -1);
        Check.same("restore", x.restore(), true);
        Check.row("as new", Check.counts(x), UNTOLD);
        Check.same("a valley of no bytes", x.valley(0), 0);
        Check.row("as new by it", Check.counts(x), UNTOLD);
    }

    // ---- 2: "Twenty bytes come behind the tape, of each number the highest first" ----

    /** Blanks with one x, which is the FAULT's place. */
    private static LampValley fedWithOne(int place) {
        LampValley x = new LampValley();
        int[] numbers = new int[125];
        java.util.Arrays.fill(numbers, 0x20202020);
        numbers[place / 4] ^= (' ' ^ 'x') << 24 - place % 4 * 8;
        for (int at = 0; at < 125; at += 5) {
            int bytes = x.feed(numbers[at], numbers[at + 1], numbers[at + 2], numbers[at + 3], numbers[at + 4]);
            Check.same("bytes of the tape", bytes, at * 4 + 20);
        }
        return x;
    }

    private static void feedPutsTheHighestByteFirst() {
        for (int place = 0; place < 500; place++) {
            Check.same("x at " + place, fedWithOne(place).valley(place + 1), 1);
            Check.same("x behind " + place, fedWithOne(place).valley(place), 0);
            LampValley x = fedWithOne(place);
            Check.same("all of the tape", x.valley(500), 1);
            Check.same("where the x is", x.fault(), place);
        }
    }

    private static void feedComesBehindTheTape() {
        LampValley x = new LampValley();
        Check.same("a refused feed is none yet", x.count(9), 0);
        // "step 7;near 3;fright" " 2;easter 9; \n  \n "
        Check.same("20", x.feed(0x73746570, 0x20373b6e, 0x65617220, 0x333b6672, 0x69676874), 20);
        Check.same("40", x.feed(0x20323b65, 0x61737465, 0x7220393b, 0x200a2020, 0x0a202020), 40);
        Check.same("count(9)", x.count(9), 40);
        Check.same("both feeds in their order", x.valley(40), 0);
        Check.row("settings", Check.counts(x), 12, 0, 7, 3, 2, 9, 0, 0, 0, 0, 0, 0, 0);
        Check.same("20 behind an empty tape", x.feed(-1, -1, -1, -1, -1), 20);
        Check.same("bytes of 255", x.valley(20) + " " + x.fault(), "1 0");
    }

    // "NONE, and none come, if it would have more than 500"
    private static void feedIsRefusedBeyond500() {
        LampValley x = new LampValley();
        for (int i = 1; i < 25; i++) {
            x.feed(0x20202020, 0x20202020, 0x20202020, 0x20202020, 0x20202020);
        }
        Check.same("480 bytes", x.count(9), 480);
        Check.same("just 500", x.feed(0x20202020, 0x20202020, 0x20202020, 0x20737465, 0x7020373b), 500);
        for (int i = 0; i < 3; i++) {
            Check.same("more than 500", x.feed(-1, -1, -1, -1, -1), -1);
        }
        Check.same("none came", x.count(9), 500);
        Check.illegal("valley(501)", () -> x.valley(501));
        Check.same("the tape is as it was", x.valley(500), 0);
        Check.row("no status by it", Check.counts(x), 12, 0, 7, 0, 0, 40, 0, 0, 0, 0, 0, 0, 0);
    }

    // ---- 3: "The tape's first n bytes (it is empty then) are a VALLEY" ----

    private static LampValley fedWithSteps() {
        LampValley x = new LampValley();
        // "step 7;near 3;easter" " 9; \n"
        x.feed(0x73746570, 0x20373b6e, 0x65617220, 0x333b6561, 0x73746572);
        x.feed(0x20393b20, 0x0a202020, 0x20202020, 0x20202020, 0x20202020);
        return x;
    }

    private static void valleyTakesTheFirstBytes() {
        LampValley none = fedWithSteps();
        Check.same("no bytes", none.valley(0), 0);
        Check.row("nothing told", Check.counts(none), UNTOLD);
        LampValley some = fedWithSteps();
        Check.same("seven bytes", some.valley(7), 0);
        Check.row("step told", Check.counts(some), 12, 0, 7, 0, 0, 40, 0, 0, 0, 0, 0, 0, 0);
        LampValley all = fedWithSteps();
        Check.same("all bytes", all.valley(40), 0);
        Check.row("all told", Check.counts(all), 12, 0, 7, 3, 0, 9, 0, 0, 0, 0, 0, 0, 0);
        LampValley few = fedWithSteps();
        Check.same("six bytes end too soon", few.valley(6) + " " + few.fault(), "1 6");
    }

    private static void valleyEmptiesTheTape() {
        for (int n : new int[] {0, 6, 7, 40}) {
            LampValley x = fedWithSteps();
            x.valley(n);
            Check.same("empty behind valley(" + n + ")", x.count(9), 0);
            Check.illegal("nothing left", () -> x.valley(1));
            Check.same("a new tape", x.feed(0x73746570, 0x2035203b, 0x20202020, 0x20202020, 0x20202020), 20);
            Check.same("a new text", x.valley(20), 0);
            Check.same("its step", x.count(2) * 10 + x.count(3), 50);
        }
    }

    // "all anew, NIGHT 0" - "THE BOOK, the image are gone"
    private static void valleyIsAllAnew() {
        LampValley x = Check.told("full 4;plain 0 4 0;plain 1 4 0;plain 0 0 4;likes 2 0;easter 3;");
        x.nights(1);
        x.drop(2, 1, 0);
        x.image();
        Check.same("the same text", Check.tell(x, "full 4;plain 0 4 0;plain 1 4 0;plain 0 0 4;"), 0);
        Check.row("counts", Check.counts(x), 4, 3, 1, 0, 0, 40, 0, 0, 0, 0, 0, 0, 0);
        Check.row("nobody is married", Check.spouses(x), -1, -1, -1);
        Check.same("no night of it", x.lamp(0, 7), -1);
        Check.row("as told", Check.oils(x, 2), 0, 4, 0);
        Check.same("likes none", x.lamp(2, 5), -1);
        Check.same("nothing may be told", x.may(2), 67);
        Check.same("the image is gone", x.restore(), false);
        Check.noSuch("the book is gone", () -> x.book(1, 0, 0));
        Check.same("the book as told", x.book(0, 2, 1), 4);
        Check.same("nothing to undo", x.undo(1), 0);
        Check.same("a valley of no bytes is anew, too", x.valley(0), 0);
        Check.row("counts of it", Check.counts(x), UNTOLD);
    }

    private static void valleyKeepsNothingOfAnOldText() {
        LampValley x = Check.told(RICH);
        Check.same("told again", Check.tell(x, RICH), 0);
        for (int i = 0; i < 3; i++) {
            Check.same("told empty", Check.tell(x, ""), 0);
            Check.row("nothing is left", Check.counts(x), UNTOLD);
        }
        Check.same("a text with a fault", Check.tell(x, RICH + "$"), 1);
        Check.same("three lamps", Check.tell(x, "plain 0 1 2;plain 1 3 4;plain 0 5 6;"), 0);
        Check.row("nothing of the fault's text", Check.counts(x), 12, 3, 1, 0, 0, 40, 0, 0, 0, 0, 1, 0, 0);
        Check.same("no likes of it", x.lamp(0, 5) + x.lamp(1, 5) + x.lamp(2, 5), -3);
        String[] words = {"full", "step", "near", "fright", "easter"};
        int[] without = {12, 1, 0, 0, 40};
        int[] what = {0, 2, 3, 4, 5};
        for (int told = 0; told < 5; told++) {
            Check.tell(x, words[told] + " 9;");
            for (int asked = 0; asked < 5; asked++) {
                Check.same(words[asked] + " by " + words[told], x.count(what[asked]),
                        asked == told ? 9 : without[asked]);
            }
        }
    }

    // "or the FAULT (all stays, but STATUS)"
    private static void valleyWithFaultChangesStatusAlone() {
        LampValley x = Check.told("full 4;plain 0 4 0;plain 1 4 0;plain 0 0 4;likes 2 0;easter 5;fog 3 2 0;near 1;");
        x.nights(2);
        x.drop(2, 1, 2);
        x.nights(9);
        x.drop(0, 0, 1);
        x.image();
        x.nights(1);
        String lamps = Check.lookAtLamps(x);
        for (int i = 1; i <= 3; i++) {
            Check.same("a text with a fault", Check.tell(x, RICH + "likes 0 2;"), 5);
            Check.same("all lamps stay", Check.lookAtLamps(x), lamps);
            Check.row("status 0 alone", Check.counts(x), 4, 3, 1, 1, 0, 5, 1, 3, 1, 0, i, 1, 1);
        }
        Check.same("the image stays", x.restore(), true);
        Check.row("as kept", Check.counts(x), 4, 3, 1, 1, 0, 5, 1, 2, 1, 0, 0, 1, 1);
    }

    // "IllegalArgumentException: the tape has not so many, n below 0 (nothing changes)"
    private static void valleyRefusesHowMany() {
        LampValley x = Check.told("plain 0 1 2;plain 1 3 4;likes 0 1;");
        x.nights(2);
        Check.illegal("one byte of none", () -> x.valley(1));
        Check.tell(x, "oh");
        x.image();
        x.feed(0x20202020, 0x20202020, 0x20202020, 0x20202020, 0x20202020);
        String all = Check.look(x);
        for (int n : new int[] {-1, 21, 40, 500, 501, Integer.MIN_VALUE, Integer.MAX_VALUE}) {
            Check.illegal("valley(" + n + ")", () -> x.valley(n));
            Check.same("nothing changes by valley(" + n + ")", Check.look(x), all);
        }
        Check.same("nor the image", x.restore(), true);
        Check.same("just so many", x.valley(20), 0);
    }

    // ---- 4: "The place of the latest valley()'s FAULT; NONE without" ----

    private static void faultIsOfTheLatestValley() {
        LampValley x = new LampValley();
        Check.same("no valley yet", x.fault(), -1);
        Check.tell(x, "step 1;x");
        Check.same("a fault", x.fault(), 7);
        Check.same("asked again", x.fault(), 7);
        Check.tell(x, " x");
        Check.same("the latest", x.fault(), 1);
        Check.illegal("no valley by that", () -> x.valley(1));
        Check.same("still the latest", x.fault(), 1);
        x.image();
        Check.tell(x, "  x");
        x.restore();
        Check.same("an image doesn't keep it", x.fault(), 2);
        Check.tell(x, "x");
        Check.same("at the first byte", x.fault(), 0);
        Check.tell(x, "step 1;");
        Check.same("none without", x.fault(), -1);
    }

    // ---- 5: "NoSuchElementException: another what" ----

    private static void countKnowsThirteen() {
        LampValley x = Check.told(RICH);
        x.feed(0, 0, 0, 0, 0);
        Check.row("all of them", Check.counts(x), 30, 3, 9, 9, 9, 99, 2, 0, 0, 20, 0, 0, 0);
        Check.noSuch("count(-1)", () -> x.count(-1));
        Check.noSuch("count(13)", () -> x.count(13));
        for (int what : FAR_OUT) {
            Check.noSuch("count(" + what + ")", () -> x.count(what));
        }
    }

    // ---- the text: "FULL (1 to 30)", "STEP (1 to 9)", "NEAR (0 to 9)", "FRIGHT (0 to 9)", "EASTER (1 to 99)" ----

    private static void range(String word, int least, int most, int what) {
        int place = word.length() + 1;
        for (int number = least; number <= most; number++) {
            Check.same(word + " " + number, Check.told(word + " " + number + ";").count(what), number);
        }
        for (int number : new int[] {most + 1, most + 10, 255, 256, 999}) {
            refused(word + " " + Math.min(number, 999) + ";", 2, place);
        }
        if (least > 0) {
            refused(word + " 0;", 2, place);
            refused(word + " 000;", 2, place);
        }
        refused(word + " -1;", 1, place);
    }

    private static void rangesEnd() {
        range("full", 1, 30, 0);
        range("step", 1, 9, 2);
        range("near", 0, 9, 3);
        range("fright", 0, 9, 4);
        range("easter", 1, 99, 5);
        for (int night : new int[] {0, 9, 10, 98, 99}) {
            Check.same("fog of night " + night, Check.told(SIX + "fog " + night + " 0 1;").count(6), 1);
        }
        refused(SIX + "fog 100 0 1;", 2, 76);
        refused(SIX + "fog 999 0 1;", 2, 76);
    }

    // "NUMBERS (1 to 3 digits)" - "a NUMBER of 4 digits or more"
    private static void numbersHaveThreeDigits() {
        for (String number : new String[] {"7", "07", "007"}) {
            Check.same("full " + number, Check.told("full " + number + ";").count(0), 7);
        }
        refused("full 0007;", 2, 5);
        refused("full 1000;", 2, 5);
        refused("full 4294967303;", 2, 5);
        refused("full 18446744073709551623;", 2, 5);
        refused("full " + "0".repeat(475), 2, 5);
        refused("plain 0000 0 0;", 2, 6);
        refused("plain 0 0000 0;", 2, 8);
        refused("plain 0 0 0000;", 2, 10);
        refused("fog 0000 0 0;", 2, 4);
        refused(SIX + "fog 0 0000 1;", 2, 78);
        refused(SIX + "fog 0 1 0000;", 2, 80);
        Check.told(SIX + "likes 000 001;fog 000 000 001;");
    }

    // "RED above FULL, GREEN above what RED leaves" - "SIDE (0, 1)"
    private static void oilsFillTheLamp() {
        for (int full : new int[] {1, 2, 12, 29, 30}) {
            for (int red = 0; red <= full; red++) {
                String begin = "full " + full + ";bold 1 " + red + " ";
                LampValley all = Check.told(begin + (full - red) + ";");
                Check.row("no blue", Check.oils(all, 0), red, full - red, 0);
                Check.row("all the rest blue", Check.oils(Check.told(begin + "0;"), 0), red, 0, full - red);
                refused(begin + (full - red + 1) + ";", 2, begin.length());
            }
            String begin = "full " + full + ";shy 0 ";
            refused(begin + (full + 1) + " 0;", 2, begin.length());
        }
        refused("plain 0 13 0;", 2, 8);
        Check.row("12 without", Check.oils(Check.told("plain 0 12 0;"), 0), 12, 0, 0);
        Check.same("side 0", Check.told("plain 0 0 0;").lamp(0, 1), 0);
        Check.same("side 1", Check.told("plain 1 0 0;").lamp(0, 1), 1);
        for (String side : new String[] {"2", "9", "10", "999"}) {
            refused("plain " + side + " 0 0;", 2, 6);
        }
    }

    // "the first TOKEN of the 7th LAMP"
    private static void sixLamps() {
        for (String kind : new String[] {"plain", "shy", "bold", "drunk", "widow"}) {
            String six = (kind + " 0 0 0;").repeat(6);
            Check.same("six of " + kind, Check.told(six).count(1), 6);
            refused(six + kind + " 0 0 0;", 2, six.length());
            refused(SIX + kind, 2, 72);
            refused(SIX + "step 1;\n" + kind + "$", 2, 80);
        }
        refused(SIX + "plains 0 0 0;", 1, 72);
    }

    // "the 11th FOG"
    private static void tenFogs() {
        String ten = SIX + "fog 0 0 1;".repeat(10);
        Check.same("ten fogs", Check.told(ten).count(6), 10);
        refused(ten + "fog 0 0 1;", 2, 172);
        refused(ten + "fog", 2, 172);
        refused(ten + "fogs", 1, 172);
        Check.told(ten + "likes 0 1;");
    }

    // "blanks (32, 10) between them, which count for nothing" - "or is none"
    private static void everyByte() {
        for (int sign = 0; sign < 256; sign++) {
            char c = (char) sign;
            boolean blank = sign == 32 || sign == 10;
            boolean letter = c >= 'a' && c <= 'z';
            boolean digit = c >= '0' && c <= '9';
            String first = blank ? "0 -1" : "1 0";
            judged(c + "", first);
            String between = blank || c == '0' ? "0 -1" : digit ? "2 4" : letter ? "1 0" : "1 4";
            judged("step" + c + "1;", between);
            String behind = blank ? "0 -1" : digit ? "2 5" : c == ';' ? "1 7" : "1 6";
            judged("step 1" + c + ";", behind);
        }
    }

    private static void judged(String text, String due) {
        LampValley x = new LampValley();
        Check.same("valley of " + text, Check.tell(x, text) + " " + x.fault(), due);
    }

    // "the text's length where it ends too soon"
    private static void textEndsTooSoon() {
        String text = "full 9 ;plain 0 1 2; \n plain 1 3 4;likes 0 1;fog 5 0 1;near 0;fright 2;step 2;easter 3; ";
        for (int n = 0; n <= text.length(); n++) {
            String cut = text.substring(0, n);
            String end = cut.trim();
            int begun = n;
            while (begun > 0 && Character.isLetter(text.charAt(begun - 1))) {
                begun--;
            }
            boolean halfWord = begun < n && n < text.length() && Character.isLetter(text.charAt(n));
            String due = end.isEmpty() || end.endsWith(";") ? "0 -1" : "1 " + (halfWord ? begun : n);
            judged(cut, due);
        }
        judged("plain 0 1 1 \n\n ", "1 15");
    }

    // "A TEXT of at most 500 bytes"
    private static void textOf500Bytes() {
        Check.same("its last byte", Check.told(" ".repeat(493) + "step 7;").count(2), 7);
        refused(" ".repeat(494) + "step 7", 1, 500);
        refused(" ".repeat(496) + "step", 1, 500);
        refused(" ".repeat(499) + "x", 1, 499);
        refused("step 1" + " ".repeat(494), 1, 500);
        Check.told("step 1" + " ".repeat(493) + ";");
        refused("a".repeat(500), 1, 0);
        refused("0".repeat(500), 1, 0);
        refused("step" + "0".repeat(496), 2, 4);
        refused(";".repeat(500), 1, 0);
    }

    // "words (a .. z, the longest row)"
    private static void theLongestRow() {
        Check.same("no blanks", Check.told("full9;plain0 1 2;step3;").count(2), 3);
        refused("fullstep 3;", 1, 0);
        refused("steps 3;", 1, 0);
        refused("ste p 3;", 1, 0);
        refused("step 1 2;", 1, 7);
        refused("1step 3;", 1, 0);
        refused("plain 012;", 2, 6);
        refused("plain 0 1;", 1, 9);
        refused("likes 01;", 3, 6);
    }

    // "FAULTS, the first along the text"
    private static void theFirstFaultCounts() {
        refused("step 0;x", 2, 5);
        refused(SIX + "likes 0 0;step 0;x", 5, 80);
        refused("likes 0 0;full 99;", 3, 6);
        refused("step 1;step 99 $", 4, 7);
        refused("plain 2 99 99 99", 2, 6);
        refused("plain 0 99 x;", 2, 8);
        refused("plain 0 x 99;", 1, 8);
        refused(SIX + "likes 0 7 7;", 3, 80);
        refused(SIX + "likes 0 1 0;", 1, 82);
    }

    // "of one TOKEN the least"
    private static void theLeastFaultOfOneToken() {
        refused("1234;", 1, 0);
        refused("step 1 1234;", 1, 7);
        refused("likes 1234 0;", 2, 6);
        refused(SIX + "likes 0 0000;", 2, 80);
        refused(SIX + "likes 1 0;likes 0001 0;", 2, 88);
        refused(SIX + "fog 0 0 0000;", 2, 80);
        refused("step full;", 1, 5);
        refused("step 1 full 3;", 1, 7);
        refused(SIX + "step plain;", 1, 77);
    }

    // "4 'full' that isn't the first LINE, a second 'step', 'near', 'fright', 'easter'"
    private static void fullIsTheFirstLine() {
        Check.same("the first line", Check.told(" \nfull 9;").count(0), 9);
        refused("full 9;full 9;", 4, 7);
        refused("full 9;full", 4, 7);
        refused("near 0; full 9;", 4, 8);
        refused("widow 0 0 0;full 12;", 4, 12);
        for (String word : new String[] {"step", "near", "fright", "easter"}) {
            String line = word + " 1;";
            refused(line + line, 4, line.length());
            refused("full 9;" + line + "plain 0 0 0;" + word, 4, 19 + line.length());
            refused(line + word + "s", 1, line.length());
        }
        Check.told("easter 1;fright 1;near 1;step 1;");
    }

    // "3 a LAMP that isn't told ahead"
    private static void lampsAreToldAhead() {
        for (int lamps = 0; lamps <= 6; lamps++) {
            String text = "plain 0 0 0;".repeat(lamps);
            int at = text.length();
            refused(text + "likes " + lamps + " 0;", 3, at + 6);
            refused(text + "fog 0 " + lamps + " 0;", 3, at + 6);
            if (lamps > 0) {
                refused(text + "likes 0 " + lamps + ";plain 0 0 0;", 3, at + 8);
                refused(text + "fog 0 0 " + lamps + ";plain 0 0 0;", 3, at + 8);
            }
            if (lamps > 1) {
                Check.told(text + "likes 0 " + (lamps - 1) + ";fog 0 " + (lamps - 1) + " 0;");
            }
        }
        refused(SIX + "likes 999 0;", 3, 78);
        refused(SIX + "fog 0 0 999;", 3, 80);
    }

    // "5 the first LAMP of 'likes' of which it was told already, a second LAMP that is the first one"
    private static void likesAreToldOnce() {
        for (int lamp = 0; lamp < 6; lamp++) {
            int other = (lamp + 1) % 6;
            String likes = "likes " + lamp + " " + other + ";";
            refused(SIX + likes + likes, 5, 88);
            refused(SIX + likes + "likes " + lamp + " " + lamp + ";", 5, 88);
            refused(SIX + likes + "likes " + lamp, 5, 88);
            refused(SIX + "likes " + lamp + " " + lamp + ";", 5, 80);
            refused(SIX + "fog 0 " + lamp + " " + lamp + ";", 5, 80);
            LampValley x = Check.told(SIX + likes + "likes " + other + " " + lamp + ";");
            Check.same("likes", x.lamp(lamp, 5) * 10 + x.lamp(other, 5), other * 10 + lamp);
        }
        Check.same("two like one", Check.told(SIX + "likes 1 0;likes 2 0;").lamp(2, 5), 0);
        Check.same("one fog twice", Check.told(SIX + "fog 0 1 2;fog 0 1 2;").count(6), 2);
    }
}
