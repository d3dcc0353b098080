import java.util.ArrayList;
import java.util.Arrays;
import java.util.LinkedHashMap;
import java.util.List;
import java.util.Map;
import java.util.regex.Matcher;
import java.util.regex.Pattern;

/**
 * The document once more, slow and plain and with the Java library, written apart from
 * the class: ModelTest holds the two against each other.
 */
final class Model {
    /** One LAMP; copied whenever a moment is kept. */
    static final class Lamp {
        String kind;
        int side;
        int[] oils;
        int likes = -1;
        int spouse = -1;
        int wedding = -1;

        Lamp copy() {
            Lamp lamp = new Lamp();
            lamp.kind = kind;
            lamp.side = side;
            lamp.oils = oils.clone();
            lamp.likes = likes;
            lamp.spouse = spouse;
            lamp.wedding = wedding;
            return lamp;
        }

        boolean isOut() {
            return spouse >= 0;
        }
    }

    /** A fault of the text, thrown out of its reading. */
    private static final class Fault extends RuntimeException {
        private static final long serialVersionUID = 1;
        final int number;
        final int place;

        Fault(int number, int place) {
            this.number = number;
            this.place = place;
        }
    }

    private static final List<String> KINDS = Arrays.asList("plain", "shy", "bold", "drunk", "widow");
    private static final int NEVER = Integer.MAX_VALUE;

    Map<String, Integer> settings = defaults();
    List<int[]> fogs = new ArrayList<>();
    List<Lamp> lamps = new ArrayList<>();
    /** Moments: for each NIGHT gone by its dusk; for each count of NIGHTS its dawn. */
    List<List<Lamp>> dusks = new ArrayList<>();
    List<List<Lamp>> dawns = new ArrayList<>();
    int[] status = new int[3];
    StringBuilder tape = new StringBuilder();
    int faultPlace = -1;
    private Model image;

    Model() {
        dawns.add(new ArrayList<>());
    }

    private static Map<String, Integer> defaults() {
        Map<String, Integer> settings = new LinkedHashMap<>();
        settings.put("full", 12);
        settings.put("step", 1);
        settings.put("near", 0);
        settings.put("fright", 0);
        settings.put("easter", 40);
        return settings;
    }

    static List<Lamp> copyOf(List<Lamp> lamps) {
        List<Lamp> copies = new ArrayList<>();
        for (Lamp lamp : lamps) {
            copies.add(lamp.copy());
        }
        return copies;
    }

    int night() {
        return dusks.size();
    }

    int easter() {
        return settings.get("easter");
    }

    static int apart(Lamp a, Lamp b) {
        int sum = 0;
        for (int oil = 0; oil < 3; oil++) {
            sum += Math.abs(a.oils[oil] - b.oils[oil]);
        }
        return sum / 2;
    }

    static int couples(List<Lamp> lamps) {
        return (int) lamps.stream().filter(Lamp::isOut).count() / 2;
    }

    // ---- the text ----

    /** Tokens as {text, place}; the last one is empty, at the text's length. */
    private static List<String[]> tokens(String text) {
        List<String[]> found = new ArrayList<>();
        Matcher matcher = Pattern.compile("[a-z]+|[0-9]+|[^ \\n]").matcher(text);
        while (matcher.find()) {
            found.add(new String[] {matcher.group(), String.valueOf(matcher.start())});
        }
        found.add(new String[] {"", String.valueOf(text.length())});
        return found;
    }

    int valley(int n) {
        if (n < 0 || n > tape.length()) {
            throw new IllegalArgumentException();
        }
        String text = tape.substring(0, n);
        tape.setLength(0);
        Model fresh = new Model();
        try {
            fresh.parse(tokens(text));
        } catch (Fault fault) {
            status[0]++;
            faultPlace = fault.place;
            return fault.number;
        }
        faultPlace = -1;
        settings = fresh.settings;
        fogs = fresh.fogs;
        lamps = fresh.lamps;
        dusks = new ArrayList<>();
        dawns = new ArrayList<>();
        dawns.add(copyOf(lamps));
        image = null;
        return 0;
    }

    private void parse(List<String[]> tokens) {
        int at = 0;
        List<String> wordsTold = new ArrayList<>();
        while (!tokens.get(at)[0].isEmpty()) {
            String word = tokens.get(at)[0];
            int place = Integer.parseInt(tokens.get(at)[1]);
            List<Integer> numbers = new ArrayList<>();
            int due = KINDS.contains(word) || word.equals("fog") ? 3
                    : word.equals("likes") ? 2 : settings.containsKey(word) ? 1 : 0;
            if (due == 0) {
                throw new Fault(1, place);
            }
            if (KINDS.contains(word) && lamps.size() == 6 || word.equals("fog") && fogs.size() == 10) {
                throw new Fault(2, place);
            }
            if (word.equals("full") ? at > 0 : due == 1 && wordsTold.contains(word)) {
                throw new Fault(4, place);
            }
            wordsTold.add(word);
            for (int i = 0; i < due; i++) {
                at++;
                numbers.add(number(tokens.get(at)));
                judge(word, numbers, Integer.parseInt(tokens.get(at)[1]));
            }
            at++;
            if (!tokens.get(at)[0].equals(";")) {
                throw new Fault(1, Integer.parseInt(tokens.get(at)[1]));
            }
            at++;
            take(word, numbers);
        }
    }

    private static int number(String[] token) {
        int place = Integer.parseInt(token[1]);
        if (!token[0].matches("[0-9]+")) {
            throw new Fault(1, place);
        }
        if (token[0].length() > 3) {
            throw new Fault(2, place);
        }
        return Integer.parseInt(token[0]);
    }

    /** Looks at the latest of the numbers. */
    private void judge(String word, List<Integer> numbers, int place) {
        int last = numbers.size() - 1;
        int value = numbers.get(last);
        boolean isLamp = word.equals("likes") || word.equals("fog") && last > 0;
        if (isLamp) {
            boolean second = word.equals("likes") ? last == 1 : last == 2;
            if (value >= lamps.size()) {
                throw new Fault(3, place);
            }
            if (second && numbers.get(last - 1) == value
                    || word.equals("likes") && !second && lamps.get(value).likes >= 0) {
                throw new Fault(5, place);
            }
            return;
        }
        int full = settings.get("full");
        int least = word.equals("full") || word.equals("step") || word.equals("easter") ? 1 : 0;
        int most;
        if (KINDS.contains(word)) {
            most = last == 0 ? 1 : last == 1 ? full : full - numbers.get(1);
        } else {
            most = word.equals("full") ? 30 : word.equals("easter") || word.equals("fog") ? 99 : 9;
        }
        if (value < least || value > most) {
            throw new Fault(2, place);
        }
    }

    private void take(String word, List<Integer> numbers) {
        if (KINDS.contains(word)) {
            Lamp lamp = new Lamp();
            lamp.kind = word;
            lamp.side = numbers.get(0);
            int blue = settings.get("full") - numbers.get(1) - numbers.get(2);
            lamp.oils = new int[] {numbers.get(1), numbers.get(2), blue};
            lamps.add(lamp);
        } else if (word.equals("likes")) {
            lamps.get(numbers.get(0)).likes = numbers.get(1);
        } else if (word.equals("fog")) {
            fogs.add(new int[] {numbers.get(0), numbers.get(1), numbers.get(2)});
        } else {
            settings.put(word, numbers.get(0));
        }
    }

    // ---- a night ----

    private boolean hidden(int night, int eye, int other) {
        return fogs.stream().anyMatch(fog -> fog[0] == night && fog[1] == eye && fog[2] == other);
    }

    /** The OILS of one LAMP at dawn. */
    int[] moved(List<Lamp> dusk, int who, int likes, int night, int laws) {
        Lamp lamp = dusk.get(who);
        int[] oils = lamp.oils.clone();
        if (lamp.isOut() || lamp.kind.equals("widow") || lamp.kind.equals("shy") && night % 2 == 0) {
            return oils;
        }
        for (Lamp other : dusk) {
            if (other != lamp && other.kind.equals("widow") && !other.isOut()
                    && apart(lamp, other) <= settings.get("fright")) {
                return oils;
            }
        }
        int goal = goal(dusk, who, likes, night);
        boolean noGreen = (laws & 2) != 0;
        if (goal >= 0) {
            double half = settings.get("step") / 2.0;
            int steps = (laws & 1) != 0 ? (int) Math.ceil(half) : settings.get("step");
            walk(oils, dusk.get(goal).oils, lamp.kind.equals("bold") ? steps * 2 : steps, noGreen);
        }
        if (lamp.kind.equals("drunk")) {
            int most = Math.max(oils[0], Math.max(oils[1], oils[2]));
            int from = oils[0] == most ? 0 : oils[1] == most ? 1 : 2;
            int to = (from + 1) % 3;
            if (!(noGreen && to == 1)) {
                oils[from]--;
                oils[to]++;
            }
        }
        return oils;
    }

    private int goal(List<Lamp> dusk, int who, int likes, int night) {
        if (likes < 0 || dusk.get(likes).isOut()) {
            return -1;
        }
        if (!hidden(night, who, likes)) {
            return likes;
        }
        for (int parts = 0; parts <= 30; parts++) {
            for (int other = 0; other < dusk.size(); other++) {
                if (other != who && !dusk.get(other).isOut() && !hidden(night, who, other)
                        && apart(dusk.get(who), dusk.get(other)) == parts) {
                    return other;
                }
            }
        }
        return -1;
    }

    private static void walk(int[] oils, int[] goal, int steps, boolean noGreen) {
        for (int step = 0; step < steps && !Arrays.equals(oils, goal); step++) {
            int[] more = {oils[0] - goal[0], oils[1] - goal[1], oils[2] - goal[2]};
            int most = Arrays.stream(more).max().getAsInt();
            int least = Arrays.stream(more).min().getAsInt();
            int from = more[0] == most ? 0 : more[1] == most ? 1 : 2;
            int to = more[0] == least ? 0 : more[1] == least ? 1 : 2;
            if (noGreen && to == 1) {
                return;
            }
            oils[from]--;
            oils[to]++;
        }
    }

    List<Lamp> dawn(List<Lamp> dusk, int night, int laws) {
        List<Lamp> dawn = copyOf(dusk);
        for (int who = 0; who < dusk.size(); who++) {
            dawn.get(who).oils = moved(dusk, who, dusk.get(who).likes, night, laws);
        }
        for (int a = 0; a < dawn.size(); a++) {
            for (int b = a + 1; b < dawn.size(); b++) {
                Lamp one = dawn.get(a);
                Lamp other = dawn.get(b);
                if (!one.isOut() && !other.isOut() && one.side != other.side
                        && apart(one, other) <= settings.get("near")) {
                    one.spouse = b;
                    other.spouse = a;
                    one.wedding = night;
                    other.wedding = night;
                }
            }
        }
        return dawn;
    }

    List<Lamp> atEaster(List<Lamp> dusk, int night, int laws) {
        List<Lamp> now = dusk;
        for (int n = night; n < easter(); n++) {
            now = dawn(now, n, laws);
        }
        return now;
    }

    int nights(int nights) {
        if (night() + nights > easter()) {
            status[2]++;
            return -1;
        }
        int before = couples(lamps);
        for (int i = 0; i < nights; i++) {
            dusks.add(copyOf(lamps));
            lamps = dawn(lamps, night() - 1, 0);
            dawns.add(copyOf(lamps));
        }
        return couples(lamps) - before;
    }

    int undo(int nights) {
        int undone = 0;
        for (; undone < nights && night() > 0; undone++) {
            dusks.remove(dusks.size() - 1);
            dawns.remove(dawns.size() - 1);
            lamps = copyOf(dawns.get(dawns.size() - 1));
        }
        return undone;
    }

    boolean drop(int who, int from, int to) {
        Lamp lamp = lamps.get(who);
        if (lamp.isOut() || lamp.oils[from] == 0) {
            status[1]++;
            return false;
        }
        lamp.oils[from]--;
        lamp.oils[to]++;
        return true;
    }

    // ---- what is asked ----

    private static String looks(List<Lamp> lamps) {
        StringBuilder text = new StringBuilder();
        for (Lamp lamp : lamps) {
            text.append(Arrays.toString(lamp.oils)).append(lamp.isOut());
        }
        return text.toString();
    }

    int end(int what) {
        List<Lamp> now = lamps;
        for (int n = night(); n < 100; n++) {
            now = dawn(now, n, 0);
        }
        Map<String, Integer> seen = new LinkedHashMap<>();
        for (int n = 100; n <= 1100; n++) {
            Integer first = seen.putIfAbsent(n % 2 + looks(now), n);
            if (first != null) {
                return what == 0 ? n - first : alone(now);
            }
            now = dawn(now, n, 0);
        }
        return -1;
    }

    private static int alone(List<Lamp> lamps) {
        int bits = 0;
        for (int who = 0; who < lamps.size(); who++) {
            bits |= lamps.get(who).isOut() ? 0 : 1 << who;
        }
        return bits;
    }

    int matches(int laws) {
        return couples(atEaster(lamps, night(), laws));
    }

    private static int wedding(List<Lamp> late, int who) {
        Lamp lamp = late.get(who);
        return lamp.likes >= 0 && lamp.spouse == lamp.likes ? lamp.wedding : NEVER;
    }

    /** The DROPS that can be given to a LAMP, none (-1) first. */
    private List<Integer> dropsOf(int who) {
        List<Integer> drops = new ArrayList<>(List.of(-1));
        for (int number = 0; number < 9; number++) {
            if (number / 3 != number % 3 && lamps.get(who).oils[number / 3] > 0) {
                drops.add(number);
            }
        }
        return drops;
    }

    private int[] played(List<Integer> children, List<Integer> drops) {
        List<Lamp> now = copyOf(lamps);
        for (int i = 0; i < children.size(); i++) {
            if (drops.get(i) >= 0) {
                now.get(children.get(i)).oils[drops.get(i) / 3]--;
                now.get(children.get(i)).oils[drops.get(i) % 3]++;
            }
        }
        List<Lamp> late = atEaster(now, night(), 0);
        return children.stream().mapToInt(child -> wedding(late, child)).toArray();
    }

    int mother(int who, int what) {
        if (lamps.get(who).isOut()) {
            return -1;
        }
        int best = NEVER;
        int bestDrop = -1;
        for (int drop : dropsOf(who)) {
            int night = played(List.of(who), List.of(drop))[0];
            if (night < best) {
                best = night;
                bestDrop = drop;
            }
        }
        return what == 0 ? bestDrop : best == NEVER ? -1 : best;
    }

    int mothers(int bits, int what) {
        List<Integer> children = new ArrayList<>();
        for (int who = 0; who < lamps.size(); who++) {
            if ((bits >> who & 1) != 0) {
                children.add(who);
            }
        }
        List<List<Integer>> rows = new ArrayList<>(List.of(List.of()));
        for (int child : children) {
            List<List<Integer>> longer = new ArrayList<>();
            for (List<Integer> row : rows) {
                for (int drop : dropsOf(child)) {
                    List<Integer> next = new ArrayList<>(row);
                    next.add(drop);
                    longer.add(next);
                }
            }
            rows = longer;
        }
        Map<List<Integer>, int[]> outcome = new LinkedHashMap<>();
        for (List<Integer> row : rows) {
            outcome.put(row, played(children, row));
        }
        List<List<Integer>> resting = new ArrayList<>();
        for (List<Integer> row : rows) {
            if (rests(row, children, outcome)) {
                resting.add(row);
            }
        }
        if (what == 0) {
            return resting.size();
        }
        StringBuilder figures = new StringBuilder();
        for (int drop : resting.isEmpty() ? List.of(-2) : resting.get(0)) {
            figures.append(drop + 1);
        }
        return Integer.parseInt(figures.toString());
    }

    private boolean rests(List<Integer> row, List<Integer> children, Map<List<Integer>, int[]> outcome) {
        for (int i = 0; i < children.size(); i++) {
            for (int drop : dropsOf(children.get(i))) {
                List<Integer> other = new ArrayList<>(row);
                other.set(i, drop);
                if (outcome.get(other)[i] < outcome.get(row)[i]) {
                    return false;
                }
            }
        }
        return true;
    }

    private boolean couldLike(List<Lamp> dusk, int[] dawn, int night, int who, int likes) {
        return Arrays.equals(moved(dusk, who, likes, night, 0), dawn);
    }

    int may(int who) {
        int bits = 0;
        for (int likes = -1; likes < lamps.size(); likes++) {
            boolean could = likes != who;
            for (int n = 0; n < night() && could; n++) {
                could = couldLike(dusks.get(n), dawns.get(n + 1).get(who).oils, n, who, likes);
            }
            bits |= could ? 1 << (likes < 0 ? 6 : likes) : 0;
        }
        return bits;
    }

    int tells(int who, int what) {
        int bits = may(who);
        int bestNight = -1;
        int fewest = -1;
        List<Lamp> now = lamps;
        for (int n = night(); n < easter(); n++) {
            List<Lamp> next = dawn(now, n, 0);
            int left = 0;
            for (int bit = 0; bit <= 6; bit++) {
                if ((bits >> bit & 1) != 0
                        && couldLike(now, next.get(who).oils, n, who, bit == 6 ? -1 : bit)) {
                    left++;
                }
            }
            if (bestNight < 0 || left < fewest) {
                bestNight = n;
                fewest = left;
            }
            now = next;
        }
        return what == 0 ? bestNight : fewest;
    }

    int near(int parts) {
        int couples = 0;
        for (int a = 0; a < lamps.size(); a++) {
            for (int b = 0; b < a; b++) {
                couples += !lamps.get(a).isOut() && !lamps.get(b).isOut()
                        && apart(lamps.get(a), lamps.get(b)) <= parts ? 1 : 0;
            }
        }
        return couples;
    }

    int years(int who, int seed, int years) {
        int left = 0;
        int now = seed;
        for (int year = 0; year < years; year++) {
            List<Lamp> lamps = copyOf(dawns.get(0));
            for (Lamp lamp : lamps) {
                List<Integer> across = new ArrayList<>();
                for (int other = 0; other < lamps.size(); other++) {
                    if (lamps.get(other).side != lamp.side) {
                        across.add(other);
                    }
                }
                if (!lamp.kind.equals("widow")) {
                    lamp.likes = -1;
                    if (!across.isEmpty()) {
                        now = (int) (now * 1103515245L + 12345L);
                        lamp.likes = across.get((now >> 16 & 0x7fff) % across.size());
                    }
                }
            }
            left += atEaster(lamps, 0, 0).get(who).isOut() ? 0 : 1;
        }
        return left;
    }

    void keepImage() {
        image = new Model();
        image.copyMoments(this);
    }

    boolean restore() {
        if (image != null) {
            copyMoments(image);
        }
        return image != null;
    }

    private void copyMoments(Model other) {
        lamps = copyOf(other.lamps);
        dusks = new ArrayList<>(other.dusks);
        dawns = new ArrayList<>(other.dawns);
        status = other.status.clone();
    }
}
