import java.util.EnumSet;
import java.util.NoSuchElementException;
import java.util.Set;

/** What the test programs share: answers and exceptions that are due, and all that a river tells of itself. */
abstract class Checks {
    /** A call on an object that is at hand. */
    interface Call {
        double answer();
    }

    /** A call on an object that is given. */
    interface Asking {
        double of(FloodStones x);
    }

    /** Makes the same river each time. */
    interface Making {
        FloodStones river();
    }

    /** The parts of what a river tells; each is asked on an object of its own, to stay below 512 calls. */
    enum Part {
        REASON, FAULT, TEXT, LINE, NUMBERS, STONES, MARKS, TRUTHS, FLOODS, YEARS, EARLY_SHIFTS, MIDDLE_SHIFTS,
        LATE_SHIFTS, UNDOS, SNAPSHOT
    }

    static final Class<?> REFUSED = UnsupportedOperationException.class;
    static final Class<?> OUT_OF_BOUNDS = IndexOutOfBoundsException.class;
    static final Class<?> BAD_ARGUMENT = IllegalArgumentException.class;
    static final Class<?> NO_ELEMENT = NoSuchElementException.class;
    static final Class<?> BAD_STATE = IllegalStateException.class;
    static final Class<?> ARITHMETIC = ArithmeticException.class;

    static final Set<Part> ALL = EnumSet.allOf(Part.class);
    static final Set<Part> ALL_BUT_REASON = EnumSet.complementOf(EnumSet.of(Part.REASON));
    static final Set<Part> ALL_BUT_FAULT = EnumSet.complementOf(EnumSet.of(Part.FAULT));
    /** All that does not tell how many calls there were. */
    static final Set<Part> ALL_BUT_CHANGES = EnumSet.complementOf(EnumSet.of(Part.UNDOS, Part.NUMBERS, Part.TEXT));

    static final int STONES = 6;
    static final int FLOODS = 12;

    private static int wrong = 0;
    private static int checked = 0;

    /** Where in a test program the answer was due that is looked at. */
    private static String where() {
        for (StackTraceElement element : new Throwable().getStackTrace()) {
            if (!element.getClassName().startsWith("Checks")) {
                return element.getMethodName() + ", line " + element.getLineNumber();
            }
        }
        return "somewhere";
    }

    static void complain(String what) {
        wrong++;
        if (wrong <= 200) {
            System.out.println(where() + ": " + what);
        }
    }

    /** Tells how many answers were wrong, and ends the program with 1 if there were some. */
    static void report() {
        System.out.println(checked + " answers looked at, " + wrong + " of them wrong");
        if (wrong != 0) {
            System.exit(1);
        }
    }

    static void due(double want, Call call) {
        checked++;
        try {
            double got = call.answer();
            if (got != want) {
                complain("answered " + got + ", due is " + want);
            }
        } catch (RuntimeException e) {
            complain("threw " + e + ", due is " + want);
        }
    }

    static void dueThrow(Class<?> want, Call call) {
        checked++;
        try {
            double got = call.answer();
            complain("answered " + got + ", due is " + want.getName());
        } catch (RuntimeException e) {
            if (e.getClass() != want) {
                complain("threw " + e + ", due is " + want.getName());
            }
        }
    }

    static void dueReason(FloodStones x, int reason, int detail, int command) {
        due(reason, () -> x.reason(0));
        due(detail, () -> x.reason(1));
        due(command, () -> x.reason(2));
    }

    /** The call is refused on a river that is at hand, which it adds no change to. */
    static void dueRefusal(FloodStones x, int reason, int detail, Call call) {
        int changes = x.account(10);
        dueThrow(REFUSED, call);
        dueReason(x, reason, detail, 0);
        due(changes, () -> x.account(10));
    }

    /** The call is refused, its reason is kept, and nothing else is changed by it. */
    static void dueRefusal(Making making, int reason, int detail, Asking call) {
        FloodStones x = making.river();
        dueThrow(REFUSED, () -> call.of(x));
        dueReason(x, reason, detail, 0);
        dueUntouched(making, ALL_BUT_REASON, call);
    }

    /** The call throws, and nothing is changed by it, not even the reason that is kept. */
    static void dueThrowAlone(Class<?> want, Making making, Asking call) {
        FloodStones x = making.river();
        dueThrow(want, () -> call.of(x));
        dueUntouched(making, ALL, call);
    }

    /** The river tells of these parts the same after the call, whatever it answers, as without it. */
    static void dueUntouched(Making making, Set<Part> parts, Asking call) {
        dueAlike(making, making, parts, call);
    }

    /** The call makes of the first river what the second one is, in these parts. */
    static void dueAlike(Making making, Making wanted, Set<Part> parts, Asking call) {
        for (Part part : parts) {
            checked++;
            FloodStones touched = making.river();
            ask(new StringBuilder(), () -> call.of(touched));
            String want = told(wanted.river(), part);
            String got = told(touched, part);
            if (!want.equals(got)) {
                complain(part + " is told otherwise: " + firstUnlike(got.split(" "), want.split(" ")));
            }
        }
    }

    private static String firstUnlike(String[] got, String[] want) {
        int index = 0;
        while (index < Math.min(got.length, want.length) && got[index].equals(want[index])) {
            index++;
        }
        return "its answer " + index + " is " + (index < got.length ? got[index] : "not there") + ", due is "
                + (index < want.length ? want[index] : "nothing");
    }

    static void type(FloodStones x, String text) {
        for (int i = 0; i < text.length(); i++) {
            x.append(text.charAt(i));
        }
    }

    /** Types a text and has it carried out. */
    static int carryOut(FloodStones x, String text) {
        type(x, text);
        return x.commands();
    }

    static void dueFault(FloodStones x, String text, int position) {
        type(x, text);
        dueThrow(BAD_ARGUMENT, x::commands);
        due(position, x::faultPosition);
        due(0, () -> x.account(11));
    }

    static void dueCommands(FloodStones x, String text, int count) {
        type(x, text);
        due(count, x::commands);
        due(-1, x::faultPosition);
        due(0, () -> x.account(11));
    }

    static void dueRefusedCommand(FloodStones x, String text, int reason, int detail, int index) {
        type(x, text);
        dueThrow(REFUSED, x::commands);
        due(-1, x::faultPosition);
        due(0, () -> x.account(11));
        dueReason(x, reason, detail, index);
    }

    /** The characters of the line that is written, up to the first that is not there. */
    static String writtenIn(FloodStones x) {
        StringBuilder text = new StringBuilder();
        try {
            for (int i = 0; i < 100; i++) {
                text.append(x.character(i));
            }
        } catch (IndexOutOfBoundsException e) {
            return text.toString();
        }
        return text.toString();
    }

    static void dueWritten(FloodStones x, String want) {
        checked++;
        String got = writtenIn(x);
        if (!got.equals(want)) {
            complain("the line is '" + got + "', due is '" + want + "'");
        }
    }

    static void dueLine(FloodStones x, int stone, String want) {
        due(want.length(), () -> x.line(stone));
        dueWritten(x, want);
    }

    /** The values just beyond a range on both sides, and the ones farthest beyond. */
    static int[] beyond(int least, int most) {
        return new int[] {least - 1, most + 1, Integer.MIN_VALUE, Integer.MAX_VALUE};
    }

    private static void ask(StringBuilder told, Call call) {
        told.append(' ');
        try {
            told.append(call.answer());
        } catch (RuntimeException e) {
            told.append(e.getClass().getSimpleName());
        }
    }

    /** What a river tells of a part; afterwards it is used up. */
    static String told(FloodStones x, Part part) {
        StringBuilder told = new StringBuilder();
        switch (part) {
            case REASON -> tellReason(x, told);
            case FAULT -> ask(told, x::faultPosition);
            case TEXT -> tellText(x, told);
            case LINE -> told.append(" '").append(writtenIn(x)).append("'");
            case NUMBERS -> tellNumbers(x, told);
            case STONES -> tellStones(x, told);
            case MARKS -> tellMarks(x, told, 0, 2);
            case TRUTHS -> tellMarks(x, told, 3, 4);
            case FLOODS -> tellFloods(x, told);
            case YEARS -> tellYears(x, told);
            case EARLY_SHIFTS -> tellShifts(x, told, -1, 333);
            case MIDDLE_SHIFTS -> tellShifts(x, told, 334, 666);
            case LATE_SHIFTS -> tellShifts(x, told, 667, 1000);
            case UNDOS -> tellUndos(x, told);
            default -> tellSnapshot(x, told);
        }
        return told.toString();
    }

    private static void tellReason(FloodStones x, StringBuilder told) {
        for (int what = 0; what < 3; what++) {
            int asked = what;
            ask(told, () -> x.reason(asked));
        }
    }

    /** What stands in the text buffer is told by what it does. */
    private static void tellText(FloodStones x, StringBuilder told) {
        ask(told, () -> x.account(11));
        ask(told, x::commands);
        ask(told, x::faultPosition);
        tellNumbers(x, told);
    }

    private static void tellNumbers(FloodStones x, StringBuilder told) {
        for (int what = -1; what <= 12; what++) {
            int asked = what;
            ask(told, () -> x.account(asked));
        }
        for (int chisel = -1; chisel <= 3; chisel++) {
            int asked = chisel;
            ask(told, () -> x.edge(asked));
        }
        for (int rank = -1; rank <= FLOODS; rank++) {
            int asked = rank;
            ask(told, () -> x.ranked(asked));
        }
        ask(told, x::doubts);
        ask(told, x::doubtsAgain);
        ask(told, x::meanEdge);
    }

    private static void tellStones(FloodStones x, StringBuilder told) {
        for (int stone = -1; stone <= STONES; stone++) {
            int asked = stone;
            for (int what = 0; what <= 5; what++) {
                int number = what;
                ask(told, () -> x.stoneOf(asked, number));
            }
            ask(told, () -> x.rises(asked) ? 1 : 0);
            for (int years = 0; years <= 60; years += 4) {
                int later = years;
                ask(told, () -> x.errorIn(asked, later));
            }
            for (int place = 0; place <= 6; place++) {
                int number = place;
                ask(told, () -> x.mark(asked, number));
            }
            ask(told, () -> x.line(asked));
        }
    }

    private static void tellMarks(FloodStones x, StringBuilder told, int first, int last) {
        for (int stone = 0; stone < STONES; stone++) {
            for (int flood = 0; flood < FLOODS; flood++) {
                for (int what = first; what <= last; what++) {
                    int onStone = stone;
                    int ofFlood = flood;
                    int number = what;
                    ask(told, () -> x.markOf(onStone, ofFlood, number));
                }
            }
        }
    }

    private static void tellFloods(FloodStones x, StringBuilder told) {
        for (int flood = -1; flood <= FLOODS; flood++) {
            int asked = flood;
            for (int what = 0; what <= 5; what++) {
                int number = what;
                ask(told, () -> x.floodOf(asked, number));
            }
            ask(told, () -> x.estimate(asked));
            for (int stone = 0; stone < STONES; stone++) {
                int onStone = stone;
                ask(told, () -> x.level(onStone, asked));
                ask(told, () -> x.reads(onStone, asked));
            }
        }
    }

    private static void tellYears(FloodStones x, StringBuilder told) {
        for (int year = -1; year <= 120; year++) {
            int asked = year;
            ask(told, () -> x.floodIn(asked));
            ask(told, () -> x.before(asked));
        }
    }

    private static void tellShifts(FloodStones x, StringBuilder told, int first, int last) {
        for (int year = first; year <= last; year++) {
            int asked = year;
            ask(told, () -> x.shift(asked));
        }
    }

    private static void tellUndos(FloodStones x, StringBuilder told) {
        for (int i = 0; i < 9; i++) {
            ask(told, x::undo);
            tellNumbers(x, told);
        }
    }

    private static void tellSnapshot(FloodStones x, StringBuilder told) {
        try {
            told.append(' ').append(x.restore());
        } catch (IllegalStateException e) {
            told.append(" none");
            return;
        }
        tellNumbers(x, told);
        tellStones(x, told);
    }

    /** A river without anything. */
    static FloodStones empty() {
        return new FloodStones();
    }

    /**
     * A river with as many stones, floods, epochs and chisels as there can be, a full stone (0), one on which two
     * pairs are in doubt (2), a blunt chisel (2), marks effaced and weathered away, a line, a fault, a reason, four
     * characters in the text buffer, eight changes that can be undone and a snapshot from before them.
     */
    static FloodStones full() {
        FloodStones x = fullWithoutText();
        type(x, "m4:0");
        return x;
    }

    /** The full river, with an empty text buffer. */
    static FloodStones fullWithoutText() {
        FloodStones x = fullUntouched();
        type(x, "y1;q");
        refusedFor(x::commands);
        refusedFor(() -> x.cut(0, 0, 9));
        return x;
    }

    /** The full river, without text, fault and reason. */
    static FloodStones fullUntouched() {
        FloodStones x = new FloodStones();
        x.stone(0, 0, 1);
        x.stone(50, 30, 5);
        x.stone(14, 2, 2);
        x.stone(25, 5, 3);
        x.stone(4, 0, 4);
        x.stone(5, 1, 1);
        for (int flood = 0; flood < FLOODS; flood++) {
            x.flood(90 - 7 * flood, 20 + 6 * flood, 9 * flood);
        }
        x.epoch(50, -3);
        x.epoch(103, 2);
        x.epoch(100, 0);
        x.chisel();
        x.chisel();
        x.chisel();
        for (int flood = 0; flood < 6; flood++) {
            x.cut(0, flood, 0);
        }
        x.save();
        x.years(3);
        x.cut(2, 0, 1);
        x.cut(2, 1, 1);
        x.years(1);
        x.epoch(104, -9);
        x.cut(2, 2, 1);
        x.epoch(104, 9);
        for (int flood = 4; flood < 8; flood++) {
            x.cut(1, flood, 2);
        }
        x.efface(1, 4);
        x.years(11);
        x.line(2);
        return x;
    }

    /** Makes a call of which it is known that it throws. */
    private static void refusedFor(Call call) {
        ask(new StringBuilder(), call);
    }
}
