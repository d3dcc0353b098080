import java.util.NoSuchElementException;

/** What the tests share: telling a VALLEY, and comparing answers with what is due. */
final class Check {
    interface Call {
        Object make();
    }

    private static int wrong;

    private Check() {
    }

    static void same(String what, Object got, Object due) {
        if (!String.valueOf(got).equals(String.valueOf(due))) {
            wrong++;
            System.out.println(what + " answered " + got + ", due is " + due);
        }
    }

    /** Every call of the row, in its order, answers the due number. */
    static void row(String what, int[] got, int... due) {
        same(what, java.util.Arrays.toString(got), java.util.Arrays.toString(due));
    }

    static void noSuch(String what, Call call) {
        same(what, answerOf(call), NoSuchElementException.class.getName());
    }

    static void illegal(String what, Call call) {
        same(what, answerOf(call), IllegalArgumentException.class.getName());
    }

    /** The answer, or the name of what was thrown. */
    static String answerOf(Call call) {
        try {
            return String.valueOf(call.make());
        } catch (RuntimeException e) {
            return e.getClass().getName();
        }
    }

    /** Feeds the text, blanks behind it, and reads just the text. */
    static int tell(LampValley valley, String text) {
        StringBuilder padded = new StringBuilder(text);
        while (padded.length() % 20 != 0) {
            padded.append(' ');
        }
        for (int at = 0; at < padded.length(); at += 20) {
            int[] numbers = new int[5];
            for (int i = 0; i < 20; i++) {
                numbers[i / 4] = numbers[i / 4] << 8 | padded.charAt(at + i) & 255;
            }
            valley.feed(numbers[0], numbers[1], numbers[2], numbers[3], numbers[4]);
        }
        return valley.valley(text.length());
    }

    static LampValley told(String text) {
        LampValley valley = new LampValley();
        same("valley of " + text, tell(valley, text), 0);
        return valley;
    }

    /** All that can be seen of the object by count, fault, lamp and book. */
    static String look(LampValley valley) {
        StringBuilder text = new StringBuilder();
        for (int what = 0; what <= 12; what++) {
            text.append(valley.count(what)).append(' ');
        }
        return text.append(valley.fault()).append(lookAtLamps(valley)).toString();
    }

    /** All that can be seen of the LAMPS, by lamp and book. */
    static String lookAtLamps(LampValley valley) {
        StringBuilder text = new StringBuilder();
        for (int lamp = 0; lamp < valley.count(1); lamp++) {
            for (int what = 0; what <= 7; what++) {
                text.append(' ').append(valley.lamp(lamp, what));
            }
            for (int night = 0; night <= valley.count(7); night++) {
                text.append(' ').append(valley.book(night, lamp, 0)).append('.').append(valley.book(night, lamp, 1));
            }
        }
        return text.toString();
    }

    /** The answers of count, each what in its order. */
    static int[] counts(LampValley valley) {
        int[] counts = new int[13];
        for (int what = 0; what <= 12; what++) {
            counts[what] = valley.count(what);
        }
        return counts;
    }

    /** Whom each LAMP married. */
    static int[] spouses(LampValley valley) {
        int[] spouses = new int[valley.count(1)];
        for (int lamp = 0; lamp < spouses.length; lamp++) {
            spouses[lamp] = valley.lamp(lamp, 6);
        }
        return spouses;
    }

    /** The LAMP's OILS behind so many NIGHTS of that text. */
    static void behind(String text, int nights, int lamp, int... oils) {
        LampValley valley = told(text);
        valley.nights(nights);
        row(text + " lamp " + lamp + " behind " + nights, oils(valley, lamp), oils);
    }

    static int[] oils(LampValley valley, int lamp) {
        return new int[] {valley.lamp(lamp, 2), valley.lamp(lamp, 3), valley.lamp(lamp, 4)};
    }

    static void finish(String test) {
        System.out.println(test + (wrong == 0 ? ": all answers are as due" : ": wrong answers: " + wrong));
        if (wrong != 0) {
            System.exit(1);
        }
    }
}
