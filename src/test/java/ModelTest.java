import java.util.ArrayDeque;
import java.util.ArrayList;
import java.util.Arrays;
import java.util.Collections;
import java.util.Comparator;
import java.util.Deque;
import java.util.List;
import java.util.Map;
import java.util.TreeMap;
import java.util.TreeSet;

/** Long runs of calls on the class and on a second model of the document, written in another way. */
public final class ModelTest {
    private static final int NONE = -1;
    private static final int BAD = -2;
    private static final int REFUSED = -3;
    private static final int NOTHING = -4;
    private static final int RUNS = 12000;
    private static final int MOST_CALLS = 512;
    private static final int MOST_OF_A_STEP = 130;
    private static final int LOOKS = 3;
    private static final int ALL_LOOKS = 60;
    private static long seed = 20261119;
    private static int wrong = 0;

    public static void main(String[] args) {
        for (int run = 0; run < RUNS && wrong < 20; run++) {
            new Run(run).go();
        }
        allJoinsAreShort();
        allShortRowsAgree();
        System.out.println(wrong == 0 ? "the class and the model agree" : wrong + " answers differ");
        if (wrong != 0) {
            System.exit(1);
        }
    }

    private static int below(int bound) {
        seed = seed * 6364136223846793005L + 1442695040888963407L;
        return (int) ((seed >>> 33) % bound);
    }

    private static void same(String told, int got, int want) {
        if (got != want) {
            wrong++;
            System.out.println(told + " answered " + got + ", the model says " + want);
        }
    }

    /** The class keeps room for joins of nine throws. */
    private static void allJoinsAreShort() {
        for (int from = 0; from < 512; from++) {
            TreeSet<Integer> alike = new TreeSet<>();
            for (int goal = 0; goal < 512; goal++) {
                if (Integer.bitCount(goal) == Integer.bitCount(from)) {
                    alike.add(goal);
                }
            }
            TreeSet<Integer> layer = new TreeSet<>(List.of(from));
            TreeSet<Integer> seen = new TreeSet<>(layer);
            int steps = 0;
            while (seen.size() < alike.size() && steps < 100) {
                TreeSet<Integer> next = new TreeSet<>();
                for (int state : layer) {
                    for (int height = 0; height <= 9; height++) {
                        if (Model.possible(state, height)) {
                            next.add(Model.after(state, height));
                        }
                    }
                }
                layer = next;
                seen.addAll(next);
                steps++;
            }
            if (!seen.equals(alike) || steps > 9) {
                same("joins from " + from, steps, 9);
            }
        }
    }

    private static void allShortRowsAgree() {
        for (int many = 1; many <= 4; many++) {
            int bound = (int) Math.pow(10, many);
            for (int told = 0; told < bound; told++) {
                JugglingRows x = new JugglingRows();
                Model model = new Model();
                same("row", x.row(told, many), model.row(told, many));
                for (int what = 0; what < 8; what++) {
                    same("rowOf " + told + " of " + many + ": " + what, x.rowOf(0, what), model.rowOf(0, what));
                }
                for (int beat = 0; beat < many; beat++) {
                    same("stateOf " + told + " at " + beat, x.stateOf(0, beat), model.stateOf(0, beat));
                }
                same("isClean " + told, x.isClean(0), model.isClean(0));
                same("isCleanAgain " + told, x.isCleanAgain(0), model.isClean(0));
                same("isWell " + told, x.isWell(), 1);
            }
        }
    }

    /** One run on a new object and a new model. */
    private static final class Run {
        private final int number;
        private int calls;
        private final JugglingRows x = new JugglingRows();
        private final Model model = new Model();

        Run(int number) {
            this.number = number;
        }

        void go() {
            for (int step = 0; calls + MOST_OF_A_STEP + ALL_LOOKS <= MOST_CALLS && wrong < 20; step++) {
                change("run " + number + " step " + step + " ");
                look("run " + number + " behind step " + step + " ", below(LOOKS * 2));
            }
            for (int which = 0; which < LOOKS; which++) {
                look("run " + number + " at its end ", which);
            }
            if (calls > MOST_CALLS) {
                throw new IllegalStateException("the run has more calls than an object is made for");
            }
        }

        private void check(String told, int got, int want) {
            calls++;
            same(told, got, want);
        }

        private int small() {
            return below(12) == 0 ? below(12) - 3 : below(6);
        }

        private void change(String told) {
            int a = small();
            int b = below(9) - (below(20) == 0 ? 1 : 0);
            int c = below(9);
            switch (below(24)) {
                case 0, 1, 2 -> {
                    int[] rows = {531, 441, 51, 3, 97531, 7131, 744, 123, 5, 71, 4, 40, 504, 55500, 0, 9, 86420, 7531, 35, 450};
                    int[] many = {3, 3, 2, 1, 5, 4, 3, 3, 1, 2, 1, 2, 3, 5, 1, 1, 5, 4, 2, 3};
                    int pick = below(rows.length);
                    check(told + "row", x.row(rows[pick], many[pick]), model.row(rows[pick], many[pick]));
                }
                case 3 -> {
                    int many = below(11) - 1;
                    int height = below((int) Math.pow(10, Math.max(0, Math.min(9, many + below(2))))) - (below(9) == 0 ? 1 : 0);
                    check(told + "row " + height + " " + many, x.row(height, many), model.row(height, many));
                }
                case 4 -> check(told + "drop " + a, x.drop(a), model.drop(a));
                case 5 -> check(told + "turn " + a, x.turn(a), model.turn(a));
                case 6, 7 -> check(told + "swap " + a + " " + b + " " + c, x.swap(a, b, c), model.swap(a, b, c));
                case 8 -> check(told + "lift " + a, x.lift(a), model.lift(a));
                case 9 -> check(told + "begin " + b, x.begin(b), model.begin(b));
                case 10, 11 -> {
                    int height = b + below(2);
                    check(told + "toss " + height, x.toss(height), model.toss(height));
                }
                case 12 -> {
                    int could = x.could(below(4));
                    calls++;
                    check(told + "toss " + could, x.toss(could), model.toss(could));
                }
                case 13, 14 -> check(told + "join " + a, x.join(a), model.join(a));
                case 15, 16 -> check(told + "once " + a, x.once(a), model.once(a));
                case 17 -> {
                    check(told + "join " + a, x.join(a), model.join(a));
                    check(told + "once " + a, x.once(a), model.once(a));
                }
                case 18 -> check(told + "undo", x.undo(), model.undo());
                case 19 -> {
                    if (below(3) == 0) {
                        check(told + "restore", x.restore(), model.restore());
                    } else {
                        check(told + "save", x.save(), model.save());
                    }
                }
                case 20, 21 -> readText(told, rightText());
                case 22 -> readText(told, oddText());
                default -> check(told + "append", x.append(30 + c * 12), model.append(30 + c * 12));
            }
        }

        private String rightText() {
            String letters = "xtslbjcrjcrb";
            StringBuilder text = new StringBuilder();
            int commands = 1 + below(5);
            for (int command = 0; command < commands; command++) {
                if (command > 0) {
                    text.append(';');
                }
                int pick = below(letters.length() + 3);
                if (pick >= letters.length()) {
                    String[] rows = {"531", "3", "321", "51", "0", "00000009", "4", "7"};
                    text.append(rows[below(rows.length)]);
                    continue;
                }
                char letter = letters.charAt(pick);
                text.append(letter).append(below(letter == 'b' || letter == 'j' ? 8 : 4));
                if (letter == 's') {
                    text.append(below(2)).append(1 + below(2));
                }
            }
            return text.toString();
        }

        private String oddText() {
            String signs = "xtslbjcr0123456789;;;; ";
            StringBuilder text = new StringBuilder(below(2) == 0 ? "" : rightText());
            int more = below(12);
            for (int sign = 0; sign < more; sign++) {
                text.append(signs.charAt(below(signs.length())));
            }
            return text.toString();
        }

        private void readText(String told, String text) {
            for (int index = 0; index < text.length(); index++) {
                check(told + "append", x.append(text.charAt(index)), model.append(text.charAt(index)));
            }
            check(told + "read " + text, x.read(), model.read());
        }

        private void look(String told, int which) {
            switch (which) {
                case 0 -> numbers(told);
                case 1 -> queries(told);
                case 2 -> lines(told, small());
                default -> check(told + "account 4", x.account(4), model.account(4));
            }
        }

        private void numbers(String told) {
            for (int what = -1; what <= 11; what++) {
                check(told + "account " + what, x.account(what), model.account(what));
            }
            for (int what = -1; what <= 6; what++) {
                check(told + "juggler " + what, x.juggler(what), model.juggler(what));
            }
            for (int what = -1; what <= 3; what++) {
                check(told + "refusal " + what, x.refusal(what), model.refusal(what));
            }
        }

        private void queries(String told) {
            int row = small();
            int beat = below(9) - 1;
            int what = below(10) - 1;
            check(told + "rowOf " + row + " " + what, x.rowOf(row, what), model.rowOf(row, what));
            check(told + "throwAt", x.throwAt(row, beat), model.throwAt(row, beat));
            check(told + "isClean", x.isClean(row), model.isClean(row));
            check(told + "isCleanAgain", x.isCleanAgain(row), model.isClean(row));
            check(told + "stateOf", x.stateOf(row, beat), model.stateOf(row, beat));
            check(told + "could", x.could(beat), model.could(beat));
            check(told + "joinTo " + row, x.joinTo(row), model.joinTo(row));
            check(told + "joinAgain " + row, x.joinAgain(row), model.joinTo(row));
            check(told + "joinThrow " + row + " " + beat, x.joinThrow(row, beat), model.joinThrow(row, beat));
            int other = small();
            check(told + "between " + row + " " + other, x.between(row, other), model.between(row, other));
            int kind = below(5) - 1;
            int place = below(8) - 1;
            check(told + "ranked " + kind + " " + place, x.ranked(kind, place), model.ranked(kind, place));
            check(told + "isWell", x.isWell(), 1);
            check(told + "mean", x.mean(), model.mean());
        }

        private void lines(String told, int row) {
            switch (below(3)) {
                case 0 -> check(told + "tellRow " + row, x.tellRow(row), model.tellRow(row));
                case 1 -> check(told + "tellState", x.tellState(), model.tellState());
                default -> check(told + "tellJoin " + row, x.tellJoin(row), model.tellJoin(row));
            }
            for (int index = -1; index < 12; index++) {
                int want = index >= 0 && index < model.line.length() ? model.line.charAt(index) : NONE;
                check(told + "sign " + index, x.sign(index), want);
            }
        }
    }

    /** What changes can change, never changed itself: each change makes a new one. */
    private record Stand(List<List<Integer>> rows, int state, int beats, int thrown, int thrownBalls, int highest,
            int joined, int begun) {
        Stand withRows(List<List<Integer>> then) {
            return new Stand(List.copyOf(then), state, beats, thrown, thrownBalls, highest, joined, begun);
        }
    }

    private static final class Model {
        private Stand now = new Stand(List.of(), 0, 0, 0, 0, 0, 0, 0);
        private Stand snapshot = null;
        private final Deque<Stand> past = new ArrayDeque<>();
        private int[] refused = null;
        private int command = NOTHING;
        private String text = "";
        private String line = "";

        private static boolean possible(int state, int height) {
            if (state % 2 == 0) {
                return height == 0;
            }
            return height != 0 && (height == 9 || (state >> height) % 2 == 0);
        }

        private static int after(int state, int height) {
            return (state - state % 2) / 2 + (height == 0 ? 0 : 1 << (height - 1));
        }

        private boolean lacks(int row) {
            return row < 0 || row >= now.rows.size();
        }

        private boolean lacks(int row, int beat) {
            return lacks(row) || beat < 0 || beat >= now.rows.get(row).size();
        }

        private int refuse(int reason, int detail) {
            refused = new int[] {reason, detail, command};
            return REFUSED;
        }

        private int change(Stand then, int answer) {
            if (command == NOTHING) {
                remember();
            }
            now = then;
            return answer;
        }

        private void remember() {
            past.push(now);
            if (past.size() > 8) {
                past.removeLast();
            }
        }

        private Stand withRow(int row, List<Integer> throwsThen) {
            List<List<Integer>> rows = new ArrayList<>(now.rows);
            rows.set(row, List.copyOf(throwsThen));
            return now.withRows(rows);
        }

        int row(int told, int many) {
            String digits = Integer.toString(told);
            if (many < 1 || many > 8 || told < 0 || digits.length() > many) {
                return BAD;
            }
            if (now.rows.size() == 6) {
                return refuse(1, 6);
            }
            List<Integer> added = new ArrayList<>();
            for (char digit : ("0".repeat(many - digits.length()) + digits).toCharArray()) {
                added.add(digit - '0');
            }
            List<List<Integer>> rows = new ArrayList<>(now.rows);
            rows.add(List.copyOf(added));
            return change(now.withRows(rows), rows.size() - 1);
        }

        int drop(int row) {
            if (lacks(row)) {
                return NONE;
            }
            List<List<Integer>> rows = new ArrayList<>(now.rows);
            rows.remove(row);
            return change(now.withRows(rows), rows.size());
        }

        int turn(int row) {
            if (lacks(row)) {
                return NONE;
            }
            List<Integer> turned = new ArrayList<>(now.rows.get(row));
            Collections.rotate(turned, -1);
            return change(withRow(row, turned), turned.get(0));
        }

        int swap(int row, int one, int other) {
            if (lacks(row, one) || lacks(row, other)) {
                return NONE;
            }
            if (other - one <= 0) {
                return refuse(7, one);
            }
            List<Integer> swapped = new ArrayList<>(now.rows.get(row));
            int landingOfOne = one + swapped.get(one);
            int landingOfOther = other + swapped.get(other);
            swapped.set(one, landingOfOther - one);
            swapped.set(other, landingOfOne - other);
            for (int beat = 0; beat < swapped.size(); beat++) {
                if (swapped.get(beat) < 0 || swapped.get(beat) > 9) {
                    return refuse(2, beat);
                }
            }
            return change(withRow(row, swapped), swapped.get(one));
        }

        int lift(int row) {
            if (lacks(row)) {
                return NONE;
            }
            List<Integer> lifted = new ArrayList<>(now.rows.get(row));
            int nine = lifted.indexOf(9);
            if (nine >= 0) {
                return refuse(2, nine);
            }
            lifted.replaceAll(height -> height + 1);
            return change(withRow(row, lifted), balls(lifted));
        }

        int begin(int balls) {
            if (balls < 1 || balls > 8) {
                return BAD;
            }
            int state = 255 >> (8 - balls);
            return change(new Stand(now.rows, state, 0, now.thrown, now.thrownBalls, now.highest, now.joined,
                now.begun + 1), state);
        }

        private Stand thrown(Stand from, List<Integer> heights) {
            Stand stand = from;
            for (int height : heights) {
                if (!possible(stand.state, height)) {
                    throw new IllegalStateException("the model made a throw that cannot be made");
                }
                stand = new Stand(stand.rows, after(stand.state, height), stand.beats + 1, stand.thrown + 1,
                    stand.thrownBalls + (height > 0 ? 1 : 0), Math.max(stand.highest, height), stand.joined, stand.begun);
            }
            return stand;
        }

        int toss(int height) {
            if (height < 0 || height > 9) {
                return BAD;
            }
            if (now.state == 0) {
                return refuse(6, now.beats);
            }
            if (!possible(now.state, height)) {
                return refuse(4, now.state);
            }
            return change(thrown(now, List.of(height)), now.beats % 2);
        }

        private boolean refusesReach(int row) {
            List<Integer> told = now.rows.get(row);
            if (now.state == 0) {
                refuse(6, now.beats);
            } else if (clash(told) != NOTHING) {
                refuse(3, clash(told));
            } else if (balls(told) != Integer.bitCount(now.state)) {
                refuse(5, balls(told));
            } else {
                return false;
            }
            return true;
        }

        int join(int row) {
            if (lacks(row)) {
                return NONE;
            }
            if (refusesReach(row)) {
                return REFUSED;
            }
            List<Integer> way = way(now.state, state(now.rows.get(row), 0));
            Stand then = thrown(now, way);
            return change(new Stand(then.rows, then.state, then.beats, then.thrown, then.thrownBalls, then.highest,
                then.joined + 1, then.begun), way.size());
        }

        int once(int row) {
            if (lacks(row)) {
                return NONE;
            }
            if (refusesReach(row)) {
                return REFUSED;
            }
            List<Integer> told = now.rows.get(row);
            if (state(told, 0) != now.state) {
                return refuse(4, now.state);
            }
            return change(thrown(now, told), told.size());
        }

        private static int clash(List<Integer> told) {
            List<Integer> landings = new ArrayList<>();
            for (int beat = 0; beat < told.size(); beat++) {
                landings.add((beat + told.get(beat)) % told.size());
            }
            for (int beat = 0; beat < told.size(); beat++) {
                if (landings.lastIndexOf(landings.get(beat)) != beat) {
                    return beat;
                }
            }
            return NOTHING;
        }

        private static int balls(List<Integer> told) {
            return clash(told) == NOTHING ? sum(told) / told.size() : NOTHING;
        }

        private static int sum(List<Integer> told) {
            return told.stream().mapToInt(height -> height).sum();
        }

        /** Juggles the row for long enough from an empty state, letting balls come in at the beats that lack one. */
        private static int state(List<Integer> told, int beat) {
            boolean[] lands = new boolean[400];
            int start = told.size() * 10 + beat;
            for (int time = 0; time < start; time++) {
                int height = told.get(time % told.size());
                if (height > 0) {
                    lands[time + height] = true;
                }
            }
            int state = 0;
            for (int ahead = 0; ahead < 9; ahead++) {
                state += lands[start + ahead] ? 1 << ahead : 0;
            }
            return state;
        }

        /** Layer by layer, with the lowest way to each state of the layer. */
        private static List<Integer> way(int from, int goal) {
            Comparator<List<Integer>> lowest = (one, other) -> Arrays.compare(
                one.stream().mapToInt(height -> height).toArray(), other.stream().mapToInt(height -> height).toArray());
            Map<Integer, List<Integer>> layer = new TreeMap<>();
            layer.put(from, List.of());
            for (int steps = 0; steps < 20; steps++) {
                if (layer.containsKey(goal)) {
                    return layer.get(goal);
                }
                Map<Integer, List<Integer>> next = new TreeMap<>();
                for (Map.Entry<Integer, List<Integer>> entry : layer.entrySet()) {
                    for (int height = 0; height <= 9; height++) {
                        if (possible(entry.getKey(), height)) {
                            List<Integer> way = new ArrayList<>(entry.getValue());
                            way.add(height);
                            next.merge(after(entry.getKey(), height), way,
                                (mine, theirs) -> lowest.compare(mine, theirs) <= 0 ? mine : theirs);
                        }
                    }
                }
                layer = next;
            }
            throw new IllegalStateException("the model found no way");
        }

        private static int period(List<Integer> told) {
            for (int many = 1; many <= told.size(); many++) {
                List<Integer> turned = new ArrayList<>(told);
                Collections.rotate(turned, many);
                if (turned.equals(told)) {
                    return many;
                }
            }
            return told.size();
        }

        int rowOf(int row, int what) {
            if (lacks(row)) {
                return NONE;
            }
            List<Integer> told = now.rows.get(row);
            return switch (what) {
                case 0 -> told.size();
                case 1 -> sum(told);
                case 2 -> balls(told);
                case 3 -> clash(told);
                case 4 -> period(told);
                case 5 -> Collections.max(told);
                case 6 -> (int) told.stream().filter(height -> height % 2 == 1).count();
                case 7 -> clash(told) != NOTHING ? NOTHING : statesOfPeriod(told).size() == period(told) ? 1 : 0;
                default -> BAD;
            };
        }

        private static TreeSet<Integer> statesOfPeriod(List<Integer> told) {
            TreeSet<Integer> states = new TreeSet<>();
            for (int beat = 0; beat < period(told); beat++) {
                states.add(state(told, beat));
            }
            return states;
        }

        int throwAt(int row, int beat) {
            return lacks(row, beat) ? NONE : now.rows.get(row).get(beat);
        }

        int isClean(int row) {
            return lacks(row) ? NONE : clash(now.rows.get(row)) == NOTHING ? 1 : 0;
        }

        int stateOf(int row, int beat) {
            if (lacks(row, beat)) {
                return NONE;
            }
            List<Integer> told = now.rows.get(row);
            return clash(told) == NOTHING ? state(told, beat) : NOTHING;
        }

        private List<Integer> possibleNow() {
            List<Integer> heights = new ArrayList<>();
            for (int height = 0; height <= 9; height++) {
                if (possible(now.state, height)) {
                    heights.add(height);
                }
            }
            return heights;
        }

        int juggler(int what) {
            return switch (what) {
                case 0 -> now.state;
                case 1 -> Integer.bitCount(now.state);
                case 2 -> now.beats;
                case 3 -> now.beats % 2;
                case 4 -> now.state % 2;
                case 5 -> possibleNow().size();
                default -> BAD;
            };
        }

        int could(int place) {
            List<Integer> heights = possibleNow();
            return place < 0 || place >= heights.size() ? NONE : heights.get(place);
        }

        private List<Integer> joinOf(int row) {
            List<Integer> told = now.rows.get(row);
            if (clash(told) != NOTHING || balls(told) != Integer.bitCount(now.state)) {
                return null;
            }
            return way(now.state, state(told, 0));
        }

        int joinTo(int row) {
            if (lacks(row)) {
                return NONE;
            }
            List<Integer> way = joinOf(row);
            return way == null ? NOTHING : way.size();
        }

        int joinThrow(int row, int place) {
            if (lacks(row)) {
                return NONE;
            }
            List<Integer> way = joinOf(row);
            if (way == null) {
                return NOTHING;
            }
            return place < 0 || place >= way.size() ? NONE : way.get(place);
        }

        int between(int row, int other) {
            if (lacks(row) || lacks(other)) {
                return NONE;
            }
            List<Integer> from = now.rows.get(row);
            List<Integer> to = now.rows.get(other);
            if (clash(from) != NOTHING || clash(to) != NOTHING || balls(from) != balls(to)) {
                return NOTHING;
            }
            return way(state(from, 0), state(to, 0)).size();
        }

        int ranked(int kind, int place) {
            if (kind < 0 || kind > 2) {
                return BAD;
            }
            if (lacks(place)) {
                return NONE;
            }
            List<Integer> order = new ArrayList<>();
            for (int row = 0; row < now.rows.size(); row++) {
                order.add(row);
            }
            Comparator<Integer> byKind = switch (kind) {
                case 0 -> Comparator.comparing(row -> now.rows.get(row).size());
                case 1 -> Comparator.comparing((Integer row) -> balls(now.rows.get(row))).reversed();
                default -> Comparator.comparing(row -> Collections.max(now.rows.get(row)));
            };
            order.sort(byKind);
            return order.get(place);
        }

        private static String digits(List<Integer> heights) {
            StringBuilder digits = new StringBuilder();
            heights.forEach(digits::append);
            return digits.toString();
        }

        int tellRow(int row) {
            if (lacks(row)) {
                return NONE;
            }
            List<Integer> told = now.rows.get(row);
            line = digits(told) + (clash(told) == NOTHING ? "=" + balls(told) : "!" + clash(told));
            return line.length();
        }

        int tellState() {
            String bits = new StringBuilder(Integer.toBinaryString(now.state)).reverse().toString();
            line = bits.replace('1', 'x').replace('0', '-');
            return line.length();
        }

        int tellJoin(int row) {
            if (lacks(row)) {
                return NONE;
            }
            List<Integer> way = joinOf(row);
            if (way == null) {
                return NOTHING;
            }
            line = digits(way);
            return line.length();
        }

        int append(int code) {
            if (code < 32 || code > 126 || text.length() == 70) {
                return BAD;
            }
            text += (char) code;
            return text.length();
        }

        private static boolean isRight(String told) {
            String one = "([0-9]{1,8}|[xtlbjcr][0-9]|s[0-9]{3})";
            return told.matches(one + "(;" + one + ")*");
        }

        private static boolean canGoOn(String told) {
            return isRight(told) || isRight(told + "0") || isRight(told + "00") || isRight(told + "000");
        }

        int read() {
            String told = text;
            text = "";
            if (!isRight(told)) {
                int fault = 0;
                while (fault < told.length() && canGoOn(told.substring(0, fault + 1))) {
                    fault++;
                }
                return -100 - fault;
            }
            Stand ahead = now;
            String[] commands = told.split(";");
            for (int number = 0; number < commands.length; number++) {
                command = number;
                int answer = carryOut(commands[number]);
                command = NOTHING;
                if (answer == NONE || answer == BAD || answer == REFUSED) {
                    now = ahead;
                    return answer == REFUSED ? REFUSED : BAD;
                }
            }
            Stand then = now;
            now = ahead;
            return change(then, commands.length);
        }

        private int carryOut(String told) {
            if (Character.isDigit(told.charAt(0))) {
                return row(Integer.parseInt(told), told.length());
            }
            int first = told.charAt(1) - '0';
            return switch (told.charAt(0)) {
                case 'x' -> drop(first);
                case 't' -> turn(first);
                case 's' -> swap(first, told.charAt(2) - '0', told.charAt(3) - '0');
                case 'l' -> lift(first);
                case 'b' -> begin(first);
                case 'j' -> toss(first);
                case 'c' -> join(first);
                default -> once(first);
            };
        }

        int refusal(int what) {
            if (what < 0 || what > 2) {
                return BAD;
            }
            return refused == null ? NOTHING : refused[what];
        }

        int account(int what) {
            return switch (what) {
                case 0 -> now.rows.size();
                case 1 -> (int) now.rows.stream().filter(told -> clash(told) == NOTHING).count();
                case 2 -> now.rows.stream().mapToInt(List::size).sum();
                case 3 -> now.rows.stream().mapToInt(told -> Math.max(0, balls(told))).sum();
                case 4 -> now.thrown;
                case 5 -> now.thrownBalls;
                case 6 -> now.highest;
                case 7 -> now.joined;
                case 8 -> now.begun;
                case 9 -> text.length();
                case 10 -> past.size();
                default -> BAD;
            };
        }

        int mean() {
            if (now.rows.isEmpty()) {
                return NOTHING;
            }
            int sum = now.rows.stream().mapToInt(Model::sum).sum();
            return Float.floatToIntBits((float) sum / (float) account(2));
        }

        int undo() {
            if (past.isEmpty()) {
                return NOTHING;
            }
            now = past.pop();
            return past.size();
        }

        int save() {
            snapshot = now;
            return now.rows.size();
        }

        int restore() {
            if (snapshot == null) {
                return NOTHING;
            }
            now = snapshot;
            past.clear();
            return now.rows.size();
        }
    }
}
