import java.lang.reflect.InvocationTargetException;
import java.lang.reflect.Method;
import java.lang.reflect.Modifier;
import java.util.ArrayDeque;
import java.util.ArrayList;
import java.util.Arrays;
import java.util.Comparator;
import java.util.Deque;
import java.util.List;
import java.util.NoSuchElementException;
import java.util.Random;
import java.util.TreeMap;
import java.util.regex.Matcher;
import java.util.regex.Pattern;

/**
 * Compares FloodStones, call by call, with a second writing of the document that is held in other ways: objects in
 * lists, copies for undo, and a regular expression for the texts. The seeds are fixed. Also checks that nothing but
 * the exceptions of the document comes out, for wild arguments too.
 */
public final class ModelTest {
    private static final class Refused extends UnsupportedOperationException {
        private static final long serialVersionUID = 1L;
        final int reason;
        final int detail;

        Refused(int reason, int detail) {
            this.reason = reason;
            this.detail = detail;
        }
    }

    private record Mark(int flood, int height, int depth, int year) {
    }

    private record Flood(int year, int crest, int witnesses) {
    }

    private static final class Stone {
        final int place;
        final int base;
        final int hardness;
        int error = 0;
        List<Mark> marks = new ArrayList<>();

        Stone(int place, int base, int hardness) {
            this.place = place;
            this.base = base;
            this.hardness = hardness;
        }

        Stone copy() {
            Stone copy = new Stone(place, base, hardness);
            copy.error = error;
            copy.marks = new ArrayList<>(marks);
            return copy;
        }

        Mark markFor(int flood) {
            return marks.stream().filter(m -> m.flood() == flood).findFirst().orElse(null);
        }

        List<Mark> sorted() {
            return marks.stream().sorted(Comparator.comparingInt(Mark::height)).toList();
        }
    }

    private static final class State {
        int year = 100;
        List<Stone> stones = new ArrayList<>();
        List<Flood> floods = new ArrayList<>();
        TreeMap<Integer, Integer> epochs = new TreeMap<>();
        List<Integer> edges = new ArrayList<>();
        int made = 0;
        int effaced = 0;
        int weathered = 0;

        State copy() {
            State copy = new State();
            copy.year = year;
            for (Stone stone : stones) {
                copy.stones.add(stone.copy());
            }
            copy.floods.addAll(floods);
            copy.epochs.putAll(epochs);
            copy.edges.addAll(edges);
            copy.made = made;
            copy.effaced = effaced;
            copy.weathered = weathered;
            return copy;
        }

        int shiftAt(int asked) {
            return epochs.floorEntry(asked) == null ? 0 : epochs.floorEntry(asked).getValue();
        }

        int truth(Mark mark) {
            return mark.height() - shiftAt(mark.year());
        }

        int levelAt(int stone, int flood) {
            Stone s = stones.get(stone);
            return floods.get(flood).crest() - Math.floorDiv(s.place, 5) - s.base;
        }

        boolean inDoubt(Mark a, Mark b) {
            int crestA = floods.get(a.flood()).crest();
            int crestB = floods.get(b.flood()).crest();
            if (crestA == crestB) {
                return truth(a) != truth(b);
            }
            Mark high = crestA > crestB ? a : b;
            Mark low = high == a ? b : a;
            return !(truth(high) > truth(low));
        }

        /** The pairs in doubt on a stone, each as the two floods. */
        List<int[]> pairs(Stone stone) {
            List<int[]> result = new ArrayList<>();
            for (int i = 0; i < stone.marks.size(); i++) {
                for (int k = i + 1; k < stone.marks.size(); k++) {
                    if (inDoubt(stone.marks.get(i), stone.marks.get(k))) {
                        result.add(new int[] {stone.marks.get(i).flood(), stone.marks.get(k).flood()});
                    }
                }
            }
            return result;
        }

        int doubtsOf(int flood) {
            int count = 0;
            for (Stone stone : stones) {
                for (int[] pair : pairs(stone)) {
                    count += pair[0] == flood || pair[1] == flood ? 1 : 0;
                }
            }
            return count;
        }

        int credit(int flood) {
            return Math.max(10 * floods.get(flood).witnesses() - 5 * doubtsOf(flood), 0);
        }

        int pass() {
            year++;
            int gone = 0;
            for (Stone stone : stones) {
                if (year % 3 == 0) {
                    int next = stone.error >= 0 ? stone.error + 1 : stone.error - 1;
                    stone.error = next > 9 ? 9 : next < -9 ? -9 : next;
                }
                if (year % 5 == 0) {
                    List<Mark> left = new ArrayList<>();
                    for (Mark m : stone.marks) {
                        if (m.depth() > 1) {
                            left.add(new Mark(m.flood(), m.height(), m.depth() - 1, m.year()));
                        }
                    }
                    gone += stone.marks.size() - left.size();
                    stone.marks = left;
                }
            }
            weathered += gone;
            return gone;
        }
    }

    /** The second writing. */
    public static final class Model {
        private static final String COMMAND =
                "(?:m\\d:\\d{1,2}/\\d|x\\d:\\d{1,2}|k\\d|s\\d|w\\d{1,2}\\+\\d|y\\d{1,2})";
        private static final Pattern TEXT = Pattern.compile(COMMAND + "(?:;" + COMMAND + ")*");

        private State state = new State();
        private State snapshot = null;
        private final Deque<State> kept = new ArrayDeque<>();
        private int[] why = null;
        private String text = "";
        private int fault = -1;
        private String written = "";
        private boolean inText = false;

        private static void range(int value, int least, int most) {
            if (value < least || value > most) {
                throw new Refused(1, 0);
            }
        }

        private static void known(int value, List<?> list) {
            if (value < 0 || value >= list.size()) {
                throw new Refused(3, value);
            }
        }

        private static void room(int count, int most) {
            if (count > most) {
                throw new Refused(2, most);
            }
        }

        private interface Step {
            int run();
        }

        /** Carries a step out on a copy; what it throws leaves the state as it is. */
        private int change(Step step) {
            if (inText) {
                return step.run();
            }
            State earlier = state;
            state = state.copy();
            try {
                int result = step.run();
                kept.addLast(earlier);
                if (kept.size() > 8) {
                    kept.removeFirst();
                }
                return result;
            } catch (Refused e) {
                state = earlier;
                why = new int[] {e.reason, e.detail, 0};
                throw e;
            }
        }

        public int stone(int place, int base, int hardness) {
            return change(() -> {
                range(place, 0, 50);
                range(base, 0, 30);
                range(hardness, 1, 5);
                room(state.stones.size() + 1, 6);
                state.stones.add(new Stone(place, base, hardness));
                return state.stones.size() - 1;
            });
        }

        private int findYear(int year) {
            for (int i = 0; i < state.floods.size(); i++) {
                if (state.floods.get(i).year() == year) {
                    return i;
                }
            }
            return -1;
        }

        public int flood(int year, int crest, int witnesses) {
            return change(() -> {
                range(year, 0, state.year);
                range(crest, 1, 99);
                range(witnesses, 0, 99);
                if (findYear(year) >= 0) {
                    throw new Refused(4, findYear(year));
                }
                room(state.floods.size() + 1, 12);
                state.floods.add(new Flood(year, crest, witnesses));
                return state.floods.size() - 1;
            });
        }

        public int epoch(int year, int shift) {
            return change(() -> {
                range(year, 0, 999);
                range(shift, -9, 9);
                state.epochs.put(year, shift);
                room(state.epochs.size(), 4);
                return state.epochs.size();
            });
        }

        public int chisel() {
            return change(() -> {
                room(state.edges.size() + 1, 3);
                state.edges.add(20);
                return state.edges.size() - 1;
            });
        }

        public int cut(int stone, int flood, int chisel) {
            return change(() -> {
                known(stone, state.stones);
                known(flood, state.floods);
                known(chisel, state.edges);
                Stone s = state.stones.get(stone);
                if (s.markFor(flood) != null) {
                    throw new Refused(5, s.markFor(flood).height());
                }
                int level = state.levelAt(stone, flood);
                if (level < 1) {
                    throw new Refused(6, 1 - level);
                }
                int height = level + s.error + state.shiftAt(state.year);
                if (height < 0 || height > 99) {
                    throw new Refused(7, height);
                }
                int edge = state.edges.get(chisel);
                if (edge < s.hardness) {
                    throw new Refused(8, edge);
                }
                for (Mark m : s.marks) {
                    if (m.height() == height) {
                        throw new Refused(9, m.flood());
                    }
                }
                room(s.marks.size() + 1, 6);
                s.marks.add(new Mark(flood, height, edge / 2 + 1, state.year));
                state.edges.set(chisel, edge - s.hardness);
                state.made++;
                return height;
            });
        }

        public int efface(int stone, int flood) {
            return change(() -> {
                known(stone, state.stones);
                known(flood, state.floods);
                Mark mark = state.stones.get(stone).markFor(flood);
                if (mark == null) {
                    throw new Refused(10, flood);
                }
                state.stones.get(stone).marks.remove(mark);
                state.effaced++;
                return mark.height();
            });
        }

        public int sharpen(int chisel) {
            return change(() -> {
                known(chisel, state.edges);
                return state.edges.set(chisel, 20);
            });
        }

        public int check(int stone) {
            return change(() -> {
                known(stone, state.stones);
                int earlier = state.stones.get(stone).error;
                state.stones.get(stone).error = 0;
                return earlier;
            });
        }

        public int witness(int flood, int witnesses) {
            return change(() -> {
                known(flood, state.floods);
                range(witnesses, 1, 9);
                Flood f = state.floods.get(flood);
                room(f.witnesses() + witnesses, 99);
                state.floods.set(flood, new Flood(f.year(), f.crest(), f.witnesses() + witnesses));
                return f.witnesses() + witnesses;
            });
        }

        public int years(int years) {
            return change(() -> {
                range(years, 1, 60);
                int gone = 0;
                for (int i = 0; i < years; i++) {
                    gone += state.pass();
                }
                return gone;
            });
        }

        private static void bounds(int value, List<?> list) {
            if (value < 0 || value >= list.size()) {
                throw new IndexOutOfBoundsException();
            }
        }

        private static void argument(boolean isRight) {
            if (!isRight) {
                throw new IllegalArgumentException();
            }
        }

        public int stoneOf(int stone, int what) {
            bounds(stone, state.stones);
            argument(what >= 0 && what <= 5);
            Stone s = state.stones.get(stone);
            int[] all = {s.place, s.base, s.hardness, s.error, s.marks.size(), state.pairs(s).size()};
            return all[what];
        }

        private int marksFor(int flood) {
            int count = 0;
            for (Stone s : state.stones) {
                count += s.markFor(flood) == null ? 0 : 1;
            }
            return count;
        }

        public int floodOf(int flood, int what) {
            bounds(flood, state.floods);
            argument(what >= 0 && what <= 5);
            Flood f = state.floods.get(flood);
            int[] all = {f.year(), f.crest(), f.witnesses(), marksFor(flood), state.doubtsOf(flood),
                state.credit(flood)};
            return all[what];
        }

        private static int found(int index) {
            if (index < 0) {
                throw new NoSuchElementException();
            }
            return index;
        }

        public int floodIn(int year) {
            return found(findYear(year));
        }

        public int before(int year) {
            int greatest = state.floods.stream().mapToInt(Flood::year).filter(y -> y < year).max().orElse(-1);
            return found(greatest < 0 ? -1 : findYear(greatest));
        }

        public int edge(int chisel) {
            bounds(chisel, state.edges);
            return state.edges.get(chisel);
        }

        public int markOf(int stone, int flood, int what) {
            bounds(stone, state.stones);
            bounds(flood, state.floods);
            argument(what >= 0 && what <= 4);
            Mark m = state.stones.get(stone).markFor(flood);
            found(m == null ? -1 : 0);
            int[] all = {m.height(), m.depth(), m.year(), state.truth(m), 0};
            if (what == 4) {
                State later = state.copy();
                while (later.stones.get(stone).markFor(flood) != null) {
                    later.pass();
                    all[4]++;
                }
            }
            return all[what];
        }

        public int mark(int stone, int place) {
            bounds(stone, state.stones);
            List<Mark> sorted = state.stones.get(stone).sorted();
            found(place < 0 || place >= sorted.size() ? -1 : 0);
            return sorted.get(place).flood();
        }

        public int level(int stone, int flood) {
            bounds(stone, state.stones);
            bounds(flood, state.floods);
            return state.levelAt(stone, flood);
        }

        public int reads(int stone, int flood) {
            return level(stone, flood) + state.stones.get(stone).error + state.shiftAt(state.year);
        }

        public int shift(int year) {
            argument(year >= 0 && year <= 999);
            return state.shiftAt(year);
        }

        public int errorIn(int stone, int years) {
            bounds(stone, state.stones);
            argument(years >= 0 && years <= 60);
            State later = state.copy();
            for (int i = 0; i < years; i++) {
                later.pass();
            }
            return later.stones.get(stone).error;
        }

        public boolean rises(int stone) {
            bounds(stone, state.stones);
            return state.pairs(state.stones.get(stone)).isEmpty();
        }

        public int ranked(int rank) {
            found(rank < 0 || rank >= state.floods.size() ? -1 : 0);
            List<Integer> order = new ArrayList<>();
            for (int i = 0; i < state.floods.size(); i++) {
                order.add(i);
            }
            order.sort(Comparator.comparingInt((Integer i) -> -state.credit(i))
                    .thenComparingInt(i -> -state.floods.get(i).crest())
                    .thenComparingInt(i -> state.floods.get(i).year()));
            return order.get(rank);
        }

        public int doubts() {
            return state.stones.stream().mapToInt(s -> state.pairs(s).size()).sum();
        }

        public int doubtsAgain() {
            return doubts();
        }

        public int append(char character) {
            if (text.length() == 60) {
                throw new IllegalStateException();
            }
            text += character;
            return text.length();
        }

        /** The end of the longest beginning that can be continued or is a text as it stands. */
        private static int faultOf(String text) {
            if (TEXT.matcher(text).matches()) {
                return -1;
            }
            for (int end = text.length(); end > 0; end--) {
                Matcher matcher = TEXT.matcher(text.substring(0, end));
                if (matcher.matches() || matcher.hitEnd()) {
                    return end;
                }
            }
            return 0;
        }

        private void runOne(String command) {
            List<Integer> numbers = new ArrayList<>();
            for (String digits : command.substring(1).split("[:/+]")) {
                numbers.add(Integer.parseInt(digits));
            }
            switch (command.charAt(0)) {
                case 'm' -> cut(numbers.get(0), numbers.get(1), numbers.get(2));
                case 'x' -> efface(numbers.get(0), numbers.get(1));
                case 'k' -> check(numbers.get(0));
                case 's' -> sharpen(numbers.get(0));
                case 'w' -> witness(numbers.get(0), numbers.get(1));
                default -> years(numbers.get(0));
            }
        }

        public int commands() {
            String asked = text;
            text = "";
            fault = faultOf(asked);
            argument(fault < 0);
            String[] parts = asked.split(";");
            int[] reached = {0};
            try {
                return change(() -> {
                    inText = true;
                    for (String part : parts) {
                        runOne(part);
                        reached[0]++;
                    }
                    return parts.length;
                });
            } catch (Refused e) {
                why[2] = reached[0];
                throw e;
            } finally {
                inText = false;
            }
        }

        public int faultPosition() {
            return fault;
        }

        public int reason(int what) {
            argument(what >= 0 && what <= 2);
            found(why == null ? -1 : 0);
            return why[what];
        }

        public int line(int stone) {
            bounds(stone, state.stones);
            written = stone + ":";
            for (Mark m : state.stones.get(stone).sorted()) {
                written += " " + m.height() + "=" + state.floods.get(m.flood()).year();
            }
            return written.length();
        }

        public char character(int index) {
            if (index < 0 || index >= written.length()) {
                throw new IndexOutOfBoundsException();
            }
            return written.charAt(index);
        }

        public double estimate(int flood) {
            bounds(flood, state.floods);
            if (marksFor(flood) == 0) {
                throw new ArithmeticException();
            }
            double sum = 0;
            for (Stone s : state.stones) {
                if (s.markFor(flood) != null) {
                    sum += state.truth(s.markFor(flood)) + s.base + s.place / 5;
                }
            }
            return sum / marksFor(flood);
        }

        public float meanEdge() {
            if (state.edges.isEmpty()) {
                throw new ArithmeticException();
            }
            return (float) state.edges.stream().mapToInt(e -> e).sum() / state.edges.size();
        }

        public int account(int what) {
            argument(what >= 0 && what <= 11);
            int marks = state.stones.stream().mapToInt(s -> s.marks.size()).sum();
            int doubtful = (int) state.stones.stream().filter(s -> !state.pairs(s).isEmpty()).count();
            int[] all = {state.year, state.stones.size(), state.floods.size(), state.epochs.size(),
                state.edges.size(), marks, state.made, state.effaced, state.weathered, doubtful, kept.size(),
                text.length()};
            return all[what];
        }

        public int undo() {
            if (kept.isEmpty()) {
                throw new IllegalStateException();
            }
            state = kept.removeLast();
            return kept.size();
        }

        public int save() {
            snapshot = state.copy();
            return state.year;
        }

        public int restore() {
            if (snapshot == null) {
                throw new IllegalStateException();
            }
            state = snapshot.copy();
            kept.clear();
            return state.year;
        }
    }

    private static final int RUNS = 1500;
    private static final int CALLS = 512;
    private static final int[] WILD = {Integer.MIN_VALUE, Integer.MIN_VALUE + 1, -1000, -1, 99, 100, 1000,
        Integer.MAX_VALUE - 1, Integer.MAX_VALUE, 178956971, 357913942, 1431655766};

    /** How often each method is called, and from what to what each of its numbers mostly is. */
    private static final String[] PLAN = {
        "stone 2 0 50 0 30 1 5", "stone 2 0 9 0 3 1 2", "flood 5 0 100 1 99 0 99", "flood 5 60 100 30 36 0 4",
        "epoch 4 90 140 -9 9", "epoch 1 0 999 -9 9", "chisel 2", "cut 30 0 5 0 11 0 2", "efface 4 0 5 0 11",
        "sharpen 6 0 2", "check 5 0 5", "witness 4 0 11 1 9", "years 8 1 6", "years 1 1 60", "stoneOf 4 0 5 0 5",
        "floodOf 4 0 11 0 5", "floodIn 1 50 120", "before 2 0 140", "edge 1 0 2", "markOf 10 0 5 0 11 0 4",
        "mark 3 0 5 0 5", "level 1 0 5 0 11", "reads 2 0 5 0 11", "shift 2 80 200", "errorIn 2 0 5 0 60",
        "rises 2 0 5", "ranked 4 0 11", "doubts 2", "doubtsAgain 2", "append 3 0 255", "commands 1",
        "faultPosition 2", "reason 5 0 2", "line 3 0 5", "character 4 0 30", "estimate 3 0 11", "meanEdge 1",
        "account 6 0 11", "undo 3", "save 1", "restore 1", "text 14"};

    private final Random random;
    private final int run;
    private final FloodStones tested = new FloodStones();
    private final Model model = new Model();
    private final List<String> calls = new ArrayList<>();
    private boolean isWrong = false;

    private ModelTest(int run) {
        this.run = run;
        this.random = new Random(run);
    }

    private static Object answerOf(Object target, Method method, Object[] arguments) {
        try {
            return method.invoke(target, arguments);
        } catch (InvocationTargetException e) {
            Class<?> type = e.getCause().getClass();
            return "throws." + (type == Refused.class ? UnsupportedOperationException.class : type).getName();
        } catch (IllegalAccessException e) {
            return e.toString();
        }
    }

    private static Method methodOf(Class<?> type, String name) {
        for (Method method : type.getDeclaredMethods()) {
            if (method.getName().equals(name) && Modifier.isPublic(method.getModifiers())) {
                return method;
            }
        }
        throw new IllegalStateException("no method " + name);
    }

    private void call(String name, Object... arguments) {
        if (isWrong || calls.size() >= CALLS) {
            return;
        }
        Object want = answerOf(model, methodOf(Model.class, name), arguments);
        Object got = answerOf(tested, methodOf(FloodStones.class, name), arguments);
        calls.add(name + Arrays.toString(arguments) + " -> " + got);
        if (!want.equals(got)) {
            isWrong = true;
            System.out.println("run " + run + ", due is " + want + " at the end of:");
            for (String call : calls.subList(Math.max(0, calls.size() - 40), calls.size())) {
                System.out.println("  " + call);
            }
        }
    }

    private int number(int least, int most) {
        return least + random.nextInt(most - least + 1);
    }

    private int argument(int least, int most) {
        int kind = random.nextInt(60);
        if (kind == 0) {
            return WILD[random.nextInt(WILD.length)];
        }
        return kind < 3 ? number(least - 2, most + 2) : number(least, most);
    }

    private String digits(int most) {
        int value = number(0, most);
        return value < 10 && most > 9 && random.nextInt(8) == 0 ? "0" + value : "" + value;
    }

    private String command() {
        int stone = random.nextInt(20) == 0 ? 9 : Math.max(1, model.account(1)) - 1;
        int chisel = random.nextInt(20) == 0 ? 9 : Math.max(1, model.account(4)) - 1;
        int flood = random.nextInt(20) == 0 ? 99 : Math.max(1, model.account(2)) - 1;
        return switch (random.nextInt(7)) {
            case 0, 1 -> "m" + digits(stone) + ":" + digits(flood) + "/" + digits(chisel);
            case 2 -> "x" + digits(stone) + ":" + digits(flood);
            case 3 -> "k" + digits(stone);
            case 4 -> "s" + digits(chisel);
            case 5 -> "w" + digits(flood) + "+" + digits(9);
            default -> "y" + digits(random.nextInt(9) == 0 ? 99 : 12);
        };
    }

    private void callText() {
        StringBuilder text = new StringBuilder(command());
        int more = random.nextInt(4) == 0 ? random.nextInt(14) : random.nextInt(3);
        for (int i = 0; i < more; i++) {
            text.append(';').append(command());
        }
        if (random.nextInt(5) == 0) {
            int at = random.nextInt(text.length());
            switch (random.nextInt(3)) {
                case 0 -> text.setLength(at);
                case 1 -> text.setCharAt(at, "mxkswy0123456789:/+; "
                        .charAt(random.nextInt(21)));
                default -> text.insert(at, (char) random.nextInt(200));
            }
        }
        for (int i = 0; i < text.length(); i++) {
            call("append", text.charAt(i));
        }
        call("commands");
        call("faultPosition");
        for (int what = 0; what < 3; what++) {
            call("reason", what);
        }
    }

    private void callPlanned(String[] plan) {
        if (plan[0].equals("text")) {
            callText();
            return;
        }
        Object[] arguments = new Object[(plan.length - 2) / 2];
        for (int i = 0; i < arguments.length; i++) {
            int value = argument(Integer.parseInt(plan[2 + 2 * i]), Integer.parseInt(plan[3 + 2 * i]));
            arguments[i] = plan[0].equals("append") ? (Object) (char) value : (Object) value;
        }
        call(plan[0], arguments);
    }

    /** All that the river tells of itself. */
    private void lookAtAll() {
        for (int what = 0; what < 12; what++) {
            call("account", what);
        }
        for (int stone = 0; stone < model.account(1); stone++) {
            call("line", stone);
            for (int index = 0; index < model.written.length(); index++) {
                call("character", index);
            }
            call("stoneOf", stone, 3);
            call("stoneOf", stone, 5);
        }
        for (int flood = 0; flood < model.account(2); flood++) {
            call("floodOf", flood, 5);
            call("estimate", flood);
            call("ranked", flood);
        }
    }

    private boolean isRight() {
        List<String[]> weighted = new ArrayList<>();
        for (String row : PLAN) {
            String[] plan = row.split(" ");
            for (int i = 0; i < Integer.parseInt(plan[1]); i++) {
                weighted.add(plan);
            }
        }
        for (int i = 0; i < 6 && run % 3 > 0; i++) {
            call("stone", number(0, 20), number(0, 3), number(1, 3));
            call("flood", number(50, 100), run % 3 == 1 ? number(30, 36) : number(1, 99), number(0, 9));
            call("chisel");
        }
        while (!isWrong && calls.size() < CALLS - 120) {
            callPlanned(weighted.get(random.nextInt(weighted.size())));
        }
        lookAtAll();
        return !isWrong;
    }

    public static void main(String[] args) {
        int wrong = 0;
        for (int run = 0; run < RUNS && wrong < 3; run++) {
            wrong += new ModelTest(run).isRight() ? 0 : 1;
        }
        System.out.println(RUNS + " runs against the model, " + wrong + " of them wrong");
        if (wrong != 0) {
            System.exit(1);
        }
    }
}
