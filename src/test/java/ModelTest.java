import java.util.Random;

/** Holds the class against the Model: the same random calls, the same answers. */
public final class ModelTest {
    private static final int RUNS = 1500;
    private static final int CALLS = 60;
    private static final String[] KINDS = {"plain", "plain", "plain", "shy", "bold", "drunk", "widow"};
    private static final String[] STRAYS = {
        ";", "full", "7", "likes", "fog", "1234", "x", "$", "plain", "step", "99", "0", "full 3;", "near 2;"};

    private final Random random;
    private final LampValley real = new LampValley();
    private final Model model = new Model();
    private int full = 12;

    private ModelTest(int seed) {
        random = new Random(seed);
    }

    public static void main(String[] args) {
        for (int seed = 0; seed < RUNS; seed++) {
            new ModelTest(seed).play(seed);
        }
        Check.finish("ModelTest");
    }

    private void play(int seed) {
        StringBuilder calls = new StringBuilder("run " + seed + ": ");
        for (int i = 0; i < CALLS; i++) {
            String[] answers = i == 0 || random.nextInt(40) == 0 ? tellBoth() : callBoth();
            calls.append(answers[0]).append(' ');
            if (!answers[1].equals(answers[2])) {
                Check.same(calls.toString(), answers[1], answers[2]);
                return;
            }
        }
    }

    private int upTo(int most) {
        return random.nextInt(most + 1);
    }

    // ---- texts ----

    private String makeText() {
        StringBuilder text = new StringBuilder();
        full = 12;
        if (random.nextInt(4) != 0) {
            full = 1 + upTo(random.nextBoolean() ? 7 : 29);
            text.append("full ").append(full).append(';');
        }
        int lamps = 1 + upTo(5);
        for (int i = 0; i < lamps; i++) {
            int red = upTo(full);
            text.append(KINDS[random.nextInt(KINDS.length)]).append(' ').append(upTo(1)).append(' ');
            text.append(red).append(' ').append(upTo(full - red)).append(";\n");
        }
        addSetting(text, "step", 1 + upTo(random.nextBoolean() ? 2 : 8));
        addSetting(text, "near", upTo(random.nextBoolean() ? 1 : 9));
        addSetting(text, "fright", upTo(random.nextBoolean() ? 2 : 9));
        addSetting(text, "easter", 1 + upTo(random.nextBoolean() ? 20 : 98));
        for (int i = 0; i < lamps && lamps > 1; i++) {
            if (random.nextInt(5) != 0) {
                text.append("likes ").append(i).append(' ').append((i + 1 + upTo(lamps - 2)) % lamps).append(';');
            }
        }
        int fogs = random.nextBoolean() ? 0 : upTo(10);
        for (int i = 0; i < fogs && lamps > 1; i++) {
            int eye = upTo(lamps - 1);
            text.append("fog ").append(upTo(random.nextInt(6) == 0 ? 99 : 8)).append(' ').append(eye);
            text.append(' ').append((eye + 1 + upTo(lamps - 2)) % lamps).append("; ");
        }
        return text.toString();
    }

    private void addSetting(StringBuilder text, String word, int number) {
        if (random.nextInt(3) == 0) {
            text.append(word).append(' ').append(number).append(" ;");
        }
    }

    private String breakText(String text) {
        StringBuilder broken = new StringBuilder(text);
        int at = upTo(broken.length());
        switch (random.nextInt(4)) {
            case 0: broken.setLength(at); break;
            case 1: broken.insert(at, STRAYS[random.nextInt(STRAYS.length)]); break;
            case 2: broken.setCharAt(Math.min(at, broken.length() - 1), (char) upTo(127)); break;
            default: broken.append(text); break;
        }
        return broken.toString();
    }

    private String[] tellBoth() {
        String text = makeText();
        for (int i = 0; i < 2; i++) {
            if (random.nextInt(6) == 0 && !text.isEmpty()) {
                text = breakText(text);
            }
        }
        if (text.length() > 480) {
            text = text.substring(0, 480);
        }
        model.tape.setLength(0);
        model.tape.append(text);
        String got = "fed too much";
        if (real.count(9) == 0) {
            got = Check.tell(real, text) + " at " + real.fault();
        }
        String due = model.valley(text.length()) + " at " + model.faultPlace;
        return new String[] {"valley(" + text + ")", got, due};
    }

    // ---- calls ----

    private String[] callBoth() {
        int lamps = model.lamps.size();
        int what = upTo(1);
        int lamp = lamps == 0 ? 0 : upTo(lamps - 1);
        switch (random.nextInt(lamps == 0 ? 6 : 17)) {
            case 0: case 1: return nights(random.nextInt(5) == 0 ? upTo(99) : upTo(3));
            case 2: return undo(random.nextInt(5) == 0 ? upTo(99) : upTo(3));
            case 3: return keepOrRestore();
            case 4: return both("end(" + what + ")", real.end(what), model.end(what));
            case 5: return near(upTo(30), upTo(3));
            case 6: case 7: return drop(lamp, upTo(2));
            case 8: return both("mother(" + lamp + "," + what + ")", real.mother(lamp, what), model.mother(lamp, what));
            case 9: return mothers(upTo((1 << lamps) - 1), what);
            case 10: case 11: return both("may(" + lamp + ")", real.may(lamp), model.may(lamp));
            case 12: return both("tells(" + lamp + "," + what + ")", real.tells(lamp, what), model.tells(lamp, what));
            case 13: return years(lamp, random.nextInt(), upTo(6));
            case 14: return book(upTo(model.night()), lamp, upTo(2));
            default: return state();
        }
    }

    private static String[] both(String call, Object got, Object due) {
        return new String[] {call, String.valueOf(got), String.valueOf(due)};
    }

    private String[] nights(int nights) {
        return both("nights(" + nights + ")", real.nights(nights), model.nights(nights));
    }

    private String[] undo(int nights) {
        return both("undo(" + nights + ")", real.undo(nights), model.undo(nights));
    }

    private String[] keepOrRestore() {
        if (random.nextInt(3) == 0) {
            real.image();
            model.keepImage();
            return both("image()", "", "");
        }
        return both("restore()", real.restore(), model.restore());
    }

    private String[] near(int parts, int laws) {
        return both("near(" + parts + ") matches(" + laws + ")",
                real.near(parts) + " " + real.matches(laws), model.near(parts) + " " + model.matches(laws));
    }

    private String[] drop(int lamp, int from) {
        int to = (from + 1 + upTo(1)) % 3;
        return both("drop(" + lamp + "," + from + "," + to + ")", real.drop(lamp, from, to), model.drop(lamp, from, to));
    }

    private String[] mothers(int bits, int what) {
        boolean some = bits != 0 && Integer.bitCount(bits) <= (random.nextInt(8) == 0 ? 3 : 2);
        for (int lamp = 0; lamp < model.lamps.size(); lamp++) {
            some &= (bits >> lamp & 1) == 0 || !model.lamps.get(lamp).isOut();
        }
        if (!some) {
            return state();
        }
        return both("mothers(" + bits + "," + what + ")", real.mothers(bits, what), model.mothers(bits, what));
    }

    private String[] years(int lamp, int seed, int years) {
        return both("years(" + lamp + "," + seed + "," + years + ")",
                real.years(lamp, seed, years), model.years(lamp, seed, years));
    }

    private String[] book(int night, int lamp, int oil) {
        return both("book(" + night + "," + lamp + "," + oil + ")",
                real.book(night, lamp, oil), model.dawns.get(night).get(lamp).oils[oil]);
    }

    /** All that count, lamp and far can tell. */
    private String[] state() {
        StringBuilder got = new StringBuilder();
        StringBuilder due = new StringBuilder();
        for (int what = 0; what <= 12; what++) {
            got.append(real.count(what)).append(' ');
        }
        due.append(model.settings.get("full")).append(' ').append(model.lamps.size()).append(' ');
        for (String word : new String[] {"step", "near", "fright", "easter"}) {
            due.append(model.settings.get(word)).append(' ');
        }
        due.append(model.fogs.size()).append(' ').append(model.night()).append(' ');
        due.append(Model.couples(model.lamps)).append(" 0 ");
        for (int refused : model.status) {
            due.append(refused).append(' ');
        }
        for (int lamp = 0; lamp < model.lamps.size(); lamp++) {
            for (int what = 0; what <= 7; what++) {
                got.append(real.lamp(lamp, what)).append(' ');
            }
            got.append(real.far(lamp, 0)).append(' ');
            due.append(tellLamp(model.lamps.get(lamp)));
            due.append(Model.apart(model.lamps.get(lamp), model.lamps.get(0))).append(' ');
        }
        return both("state", got, due);
    }

    private static String tellLamp(Model.Lamp lamp) {
        int kind = java.util.Arrays.asList("plain", "shy", "bold", "drunk", "widow").indexOf(lamp.kind);
        return kind + " " + lamp.side + " " + lamp.oils[0] + " " + lamp.oils[1] + " " + lamp.oils[2]
                + " " + lamp.likes + " " + lamp.spouse + " " + lamp.wedding + " ";
    }
}
