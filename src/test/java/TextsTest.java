/** The text buffer: its length, the fault position at each place, and texts that are refused or carried out. */
public final class TextsTest extends Checks {
    private static final String LETTERS = "mxkswy";
    private static final String DIGITS = "0123456789";

    /** The beginnings of a command: what can stand next, and whether the text may end here. */
    private static final String[][] BEGINNINGS = {
        {"", LETTERS, "no"},
        {"m", DIGITS, "no"}, {"m9", ":", "no"}, {"m0:", DIGITS, "no"}, {"m0:9", DIGITS + "/", "no"},
        {"m0:12", "/", "no"}, {"m0:00", "/", "no"}, {"m0:1/", DIGITS, "no"}, {"m9:99/", DIGITS, "no"},
        {"m0:1/2", ";", "yes"}, {"m9:99/9", ";", "yes"},
        {"x", DIGITS, "no"}, {"x0", ":", "no"}, {"x9:", DIGITS, "no"}, {"x0:9", DIGITS + ";", "yes"},
        {"x0:00", ";", "yes"}, {"x9:99", ";", "yes"},
        {"k", DIGITS, "no"}, {"k0", ";", "yes"}, {"k9", ";", "yes"},
        {"s", DIGITS, "no"}, {"s0", ";", "yes"}, {"s9", ";", "yes"},
        {"w", DIGITS, "no"}, {"w0", DIGITS + "+", "no"}, {"w9", DIGITS + "+", "no"}, {"w00", "+", "no"},
        {"w99", "+", "no"}, {"w9+", DIGITS, "no"}, {"w12+", DIGITS, "no"}, {"w0+0", ";", "yes"},
        {"w99+9", ";", "yes"},
        {"y", DIGITS, "no"}, {"y0", DIGITS + ";", "yes"}, {"y9", DIGITS + ";", "yes"}, {"y00", ";", "yes"},
        {"y99", ";", "yes"}};

    /** Commands that may stand ahead of another one. */
    private static final String[] AHEAD = {"", "k0;", "m9:99/9;", "x0:0;", "w12+3;", "y1;y12;s2;"};

    /** Characters that are like those of texts, or far from them. */
    private static final char[] STRANGE = {'\u0130', '\u0660', '\uff11', '\u2028', '\u0100', '\ud83d', '\uffff'};

    private static void dueFaultOf(String text, int position) {
        FloodStones x = new FloodStones();
        dueFault(x, text, position);
    }

    /** The text has no fault; on an empty river it may be refused for what it asks. */
    private static void dueNoFault(String text) {
        FloodStones x = new FloodStones();
        type(x, text);
        try {
            x.commands();
        } catch (UnsupportedOperationException e) {
            due(1, () -> x.reason(0) > 0 ? 1 : 0);
        }
        due(-1, x::faultPosition);
        due(0, () -> x.account(11));
    }

    private static void textsEndTooEarly() {
        for (String ahead : AHEAD) {
            for (String[] row : BEGINNINGS) {
                String text = ahead + row[0];
                if (row[2].equals("yes")) {
                    dueNoFault(text);
                } else {
                    dueFaultOf(text, text.length());
                }
            }
        }
    }

    /** At each place each character: where it cannot continue the text, the fault is there. */
    private static void textsHaveAFaultAtEachPlace() {
        for (String ahead : AHEAD) {
            for (String[] row : BEGINNINGS) {
                String text = ahead + row[0];
                for (char sign = 0; sign < 256; sign++) {
                    if (row[1].indexOf(sign) < 0) {
                        dueFaultOf(text + sign, text.length());
                    }
                }
                for (char sign : STRANGE) {
                    dueFaultOf(text + sign, text.length());
                    dueFaultOf(text + sign + "k0", text.length());
                }
            }
        }
    }

    /** Where a character can continue the text, the fault is not there: it is behind it, or there is none. */
    private static void textsGoOn() {
        for (String[] row : BEGINNINGS) {
            for (int i = 0; i < row[1].length(); i++) {
                String text = row[0] + row[1].charAt(i);
                FloodStones x = new FloodStones();
                type(x, text);
                try {
                    x.commands();
                } catch (IllegalArgumentException | UnsupportedOperationException e) {
                    due(0, () -> x.account(11));
                }
                due(1, () -> x.faultPosition() == -1 || x.faultPosition() == text.length() ? 1 : 0);
            }
        }
    }

    /** Only the first fault counts, whatever follows. */
    private static void textsHaveTheirFirstFault() {
        for (String[] row : BEGINNINGS) {
            dueFaultOf(row[0] + "?", row[0].length());
            dueFaultOf(row[0] + "?;;?", row[0].length());
            dueFaultOf(row[0] + " k0", row[0].length());
        }
        dueFaultOf("m0:0/0;x0:0;k0;s0;w0+1;y1;z", 26);
        dueFaultOf("k0;;k0;;", 3);
        dueFaultOf(";k0", 0);
        dueFaultOf("k0 ;k0", 2);
        dueFaultOf("y123", 3);
        dueFaultOf("m12:1/1", 2);
        dueFaultOf("m1:1/12", 6);
        dueFaultOf("w1+12", 4);
        dueFaultOf("w123+1", 3);
        dueFaultOf("s-1", 1);
        dueFaultOf("y+1", 1);
        dueFaultOf("k0,k0", 2);
        dueFaultOf("K0", 0);
    }

    private static void emptyTextEndsTooEarly() {
        for (Making making : new Making[] {Checks::empty, Checks::fullWithoutText}) {
            FloodStones x = making.river();
            dueThrow(BAD_ARGUMENT, x::commands);
            due(0, x::faultPosition);
            dueUntouched(making, ALL_BUT_FAULT, FloodStones::commands);
        }
    }

    /** A text with a fault changes nothing, not even by the good commands ahead of the fault, nor the reason. */
    private static void faultyTextsChangeNothing() {
        String[] texts = {"", "?", "k", "k0;", "k0;y60;s2;q", "x0:0;x0:1;w0+1,", "y5;y5;y5;m4:0/0;y", "w0+1;w0+2;w0",
            "x9:99;k9;s9;?", "y0;y61;"};
        for (String text : texts) {
            FloodStones x = fullWithoutText();
            type(x, text);
            dueThrow(BAD_ARGUMENT, x::commands);
            for (Making making : new Making[] {Checks::fullWithoutText, Checks::fullUntouched, Checks::empty}) {
                dueUntouched(making, ALL_BUT_FAULT, y -> carryOut(y, text));
            }
        }
    }

    // append

    private static void bufferHoldsSixtyCharacters() {
        FloodStones x = new FloodStones();
        for (int length = 1; length <= 60; length++) {
            int number = length;
            due(number, () -> x.append((char) (number * 7)));
            due(number, () -> x.account(11));
        }
        dueThrow(BAD_STATE, () -> x.append('k'));
        due(60, () -> x.account(11));
        dueThrow(BAD_STATE, () -> x.append('k'));
        dueThrow(BAD_ARGUMENT, x::commands);
        due(0, x::faultPosition);
        due(1, () -> x.append('k'));
        due(2, () -> x.append('0'));
        Making filled = () -> {
            FloodStones y = fullWithoutText();
            type(y, "y1;y1;y1;y1;y1;y1;y1;y1;y1;y1;y1;y1;y1;y1;y1;y1;y1;y1;y01;k");
            y.append('0');
            return y;
        };
        dueThrowAlone(BAD_STATE, filled, y -> y.append('0'));
        dueThrowAlone(BAD_STATE, filled, y -> y.append(';'));
        Making faulty = () -> {
            FloodStones y = fullWithoutText();
            type(y, "y1;y1;y1;y1;y1;y1;y1;y1;y1;y1;y1;y1;y1;y1;y1;y1;y1;y1;y1;k01");
            return y;
        };
        dueThrow(BAD_ARGUMENT, () -> faulty.river().commands());
        dueThrowAlone(BAD_STATE, faulty, y -> y.append('0'));
    }

    private static void appendingChangesTheBufferAlone() {
        for (Part part : Part.values()) {
            if (part != Part.TEXT && part != Part.NUMBERS && part != Part.UNDOS && part != Part.SNAPSHOT) {
                String want = told(full(), part);
                FloodStones x = full();
                x.append('/');
                x.append('0');
                due(1, () -> told(x, part).equals(want) ? 1 : 0);
            }
        }
        FloodStones x = full();
        due(5, () -> x.append('/'));
        due(6, () -> x.append('0'));
        due(1, x::commands);
        due(34, () -> x.markOf(4, 0, 0));
    }

    /** A river with a stone, a flood that reaches it, and a chisel. */
    private static FloodStones small() {
        FloodStones x = new FloodStones();
        x.stone(0, 0, 1);
        x.flood(1, 30, 0);
        x.chisel();
        return x;
    }

    /** Texts of just 60 characters, of the most commands, and of one that ends too early at the 60th. */
    private static void longTexts() {
        StringBuilder kinds = new StringBuilder();
        for (int i = 0; i < 18; i++) {
            kinds.append("k0;");
        }
        FloodStones x = small();
        dueCommands(x, kinds + "m0:0/0", 19);
        due(30, () -> x.markOf(0, 0, 0));
        dueRefusedCommand(x, kinds + "m0:0/0", 5, 30, 18);
        dueCommands(x, "y60;y60;y60;y60;y60;y60;y60;y60;y60;y60;y60;y60;y60;y60;y60", 15);
        due(1000, () -> x.account(0));
        due(1, () -> x.account(8));
        dueCommands(small(), kinds + "k0;k0", 20);
        dueRefusedCommand(small(), kinds + "k0;k1", 3, 1, 19);
        dueFault(small(), kinds + "k0;k0;", 60);
        dueFault(small(), kinds + "m0:00/", 60);
        dueFault(small(), kinds + "m0:0//", 59);
        dueFault(small(), kinds + "w0+1;w", 60);
        dueFault(small(), kinds + "w0+1;z", 59);
    }

    // faultPosition

    private static void faultIsOfTheLatestText() {
        FloodStones x = full();
        due(3, x::faultPosition);
        type(x, "/0;k9");
        due(3, x::faultPosition);
        dueThrow(REFUSED, x::commands);
        due(-1, x::faultPosition);
        dueFault(x, "k0;k?", 4);
        dueThrow(REFUSED, () -> x.cut(0, 0, 0));
        due(4, x::faultPosition);
        x.years(1);
        x.undo();
        x.restore();
        x.save();
        due(4, x::faultPosition);
        dueCommands(x, "k0", 1);
        dueThrow(BAD_ARGUMENT, x::commands);
        due(0, x::faultPosition);
    }

    // Texts that are carried out

    /** The text makes of the river just what the call makes of it, and is one change as well. */
    private static void dueAsTheMethod(String text, Asking call) {
        Making making = Checks::fullUntouched;
        Making wanted = () -> {
            FloodStones x = making.river();
            call.of(x);
            return x;
        };
        dueAlike(making, wanted, ALL, x -> carryOut(x, text));
        FloodStones x = making.river();
        dueCommands(x, text, 1);
    }

    private static void commandsAreAsTheMethods() {
        dueAsTheMethod("m3:0/0", x -> x.cut(3, 0, 0));
        dueAsTheMethod("m3:00/1", x -> x.cut(3, 0, 1));
        dueAsTheMethod("m5:1/0", x -> x.cut(5, 1, 0));
        dueAsTheMethod("m1:10/1", x -> x.cut(1, 10, 1));
        dueAsTheMethod("m1:11/0", x -> x.cut(1, 11, 0));
        dueAsTheMethod("m4:09/0", x -> x.cut(4, 9, 0));
        dueAsTheMethod("x0:0", x -> x.efface(0, 0));
        dueAsTheMethod("x1:05", x -> x.efface(1, 5));
        dueAsTheMethod("x2:2", x -> x.efface(2, 2));
        for (int stone = 0; stone < 6; stone++) {
            int number = stone;
            dueAsTheMethod("k" + stone, x -> x.check(number));
        }
        for (int chisel = 0; chisel < 3; chisel++) {
            int number = chisel;
            dueAsTheMethod("s" + chisel, x -> x.sharpen(number));
        }
        for (int more = 1; more <= 9; more++) {
            int number = more;
            dueAsTheMethod("w0+" + more, x -> x.witness(0, number));
        }
        dueAsTheMethod("w10+9", x -> x.witness(10, 9));
        dueAsTheMethod("w09+1", x -> x.witness(9, 1));
        for (int years = 1; years <= 60; years++) {
            int number = years;
            dueAsTheMethod("y" + years, x -> x.years(number));
        }
        dueAsTheMethod("y01", x -> x.years(1));
        dueAsTheMethod("y09", x -> x.years(9));
    }

    private static void markOfTheFloodEleven() {
        FloodStones x = fullUntouched();
        dueCommands(x, "m1:11/1;x1:11;w9+8;m1:8/0", 4);
        due(42, () -> x.markOf(1, 8, 0));
        due(9, () -> x.edge(0));
        due(9, () -> x.edge(1));
        due(89, () -> x.floodOf(9, 2));
        due(2, () -> x.account(7));
    }

    /** A command meets what the ones ahead of it have done. */
    private static void commandsFollowOneAnother() {
        FloodStones x = fullUntouched();
        dueCommands(x, "s2;m1:8/2;x1:8;m1:8/2", 4);
        due(10, () -> x.edge(2));
        due(8, () -> x.markOf(1, 8, 1));
        due(2, () -> x.account(7));
        dueCommands(x, "x0:5;m0:6/0;k0;x0:6;m0:6/0", 5);
        due(65, () -> x.markOf(0, 6, 0));
        due(0, () -> x.stoneOf(0, 3));
        dueCommands(x, "y5;m3:1/1;y1;x3:1", 4);
        due(121, () -> x.account(0));
        due(0, () -> x.stoneOf(3, 4));
        due(7, x::undo);
        due(115, () -> x.account(0));
        due(6, x::undo);
        due(50, () -> x.markOf(0, 5, 0));
        due(5, x::undo);
        due(0, () -> x.edge(2));
        due(1, () -> x.account(7));
    }

    // Texts that are refused

    /** A command of the text is refused: none is carried out, the buffer is empty, and the reason is kept. */
    private static void dueRefusedText(String text, int reason, int detail, int index) {
        FloodStones x = fullUntouched();
        dueRefusedCommand(x, text, reason, detail, index);
        dueUntouched(Checks::fullUntouched, ALL_BUT_REASON, y -> carryOut(y, text));
    }

    private static void laterCommandsAreRefused() {
        String[] good = {"", "m3:0/0", "x0:0", "k0", "s2", "w0+9", "y1", "y60", "m4:0/0;x4:0;k1;s0;w3+1;y12"};
        for (String ahead : good) {
            int index = ahead.isEmpty() ? 0 : ahead.split(";").length;
            String text = ahead.isEmpty() ? "" : ahead + ";";
            dueRefusedText(text + "w1+0", 1, 0, index);
            dueRefusedText(text + "y0", 1, 0, index);
            dueRefusedText(text + "y00", 1, 0, index);
            dueRefusedText(text + "y61", 1, 0, index);
            dueRefusedText(text + "y99;k0", 1, 0, index);
            dueRefusedText(text + "w11+1", 2, 99, index);
            dueRefusedText(text + "k6;y0", 3, 6, index);
            dueRefusedText(text + "k9", 3, 9, index);
            dueRefusedText(text + "s3;k9", 3, 3, index);
            dueRefusedText(text + "w12+0", 3, 12, index);
            dueRefusedText(text + "w99+1", 3, 99, index);
            dueRefusedText(text + "x6:99", 3, 6, index);
            dueRefusedText(text + "x0:12", 3, 12, index);
            dueRefusedText(text + "m9:99/9", 3, 9, index);
            dueRefusedText(text + "m0:99/9", 3, 99, index);
            dueRefusedText(text + "m0:0/9", 3, 9, index);
            dueRefusedText(text + "m1:0/0", 6, 21, index);
            dueRefusedText(text + "x0:6", 10, 6, index);
            dueRefusedText(text + "x5:11", 10, 11, index);
        }
    }

    private static void laterCutsAreRefused() {
        dueRefusedText("m0:0/0", 5, 20, 0);
        dueRefusedText("k0;m0:5/2", 5, 50, 1);
        dueRefusedText("m3:0/0;m3:0/1", 5, 24, 1);
        dueRefusedText("k5;s0;m4:11/0", 7, 100, 2);
        dueRefusedText("y60;m4:11/0", 7, 104, 1);
        dueRefusedText("s0;m3:0/2", 8, 0, 1);
        dueRefusedText("s2;m1:8/2;m1:9/2;m1:10/2;m1:11/2;m3:0/2", 8, 0, 5);
        dueRefusedText("k0;w0+1;m2:0/2", 5, 19, 2);
        dueRefusedText("k0;m0:6/0", 2, 6, 1);
        dueRefusedText("k0;x0:0;m0:6/0;m0:7/0", 2, 6, 3);
        dueRefusedText("x0:0;x0:0", 10, 0, 1);
        dueRefusedText("x1:5;m1:6/0", 5, 26, 1);
        dueRefusedText("k1;m1:5/0", 5, 20, 1);
        dueRefusedText("y1;y1;y1;y1;y1;y1;y1;y1;y1;y1;y1;y1;y1;y1;y1;y1;y1;y1;y0", 1, 0, 18);
        dueRefusedText("w10+9;w10+1", 2, 99, 1);
        dueRefusedText("y15;x1:6", 10, 6, 1);
    }

    /** The reason 9: a staff that is set right reads for a flood what it read with an error for a lower one. */
    private static void laterCutsMeetAHeight() {
        Making making = () -> {
            FloodStones x = new FloodStones();
            x.stone(0, 0, 1);
            x.chisel();
            x.flood(1, 40, 0);
            x.flood(2, 41, 0);
            return x;
        };
        FloodStones x = making.river();
        dueRefusedCommand(x, "y2;m0:0/0;k0;m0:1/0", 9, 0, 3);
        dueUntouched(making, ALL_BUT_REASON, y -> carryOut(y, "y2;m0:0/0;k0;m0:1/0"));
        dueCommands(x, "m0:0/0;y2;m0:1/0", 3);
        dueLine(x, 0, "0: 40=1 42=2");
    }

    /** Texts on a river without anything. */
    private static void textsOnAnEmptyRiver() {
        for (String text : new String[] {"k0", "s0", "w0+1", "x0:0", "m0:0/0"}) {
            dueRefusedCommand(new FloodStones(), text, 3, 0, 0);
            dueRefusedCommand(new FloodStones(), "y1;" + text, 3, 0, 1);
            dueUntouched(Checks::empty, ALL_BUT_REASON, y -> carryOut(y, "y1;" + text));
        }
        FloodStones x = new FloodStones();
        dueCommands(x, "y1;y60", 2);
        due(161, () -> x.account(0));
        due(1, () -> x.account(10));
    }

    /** The buffer is empty afterwards, so that the next text stands on its own. */
    private static void bufferIsEmptyAfterwards() {
        FloodStones x = new FloodStones();
        dueFault(x, "y1;", 3);
        dueCommands(x, "y1", 1);
        dueRefusedCommand(x, "k0", 3, 0, 0);
        dueCommands(x, "y1", 1);
        dueFault(x, ";y1", 0);
        due(102, () -> x.account(0));
        dueThrow(BAD_ARGUMENT, x::commands);
        due(0, x::faultPosition);
    }

    public static void main(String[] args) {
        textsEndTooEarly();
        textsHaveAFaultAtEachPlace();
        textsGoOn();
        textsHaveTheirFirstFault();
        emptyTextEndsTooEarly();
        faultyTextsChangeNothing();
        bufferHoldsSixtyCharacters();
        appendingChangesTheBufferAlone();
        longTexts();
        faultIsOfTheLatestText();
        commandsAreAsTheMethods();
        markOfTheFloodEleven();
        commandsFollowOneAnother();
        laterCommandsAreRefused();
        laterCutsAreRefused();
        laterCutsMeetAHeight();
        textsOnAnEmptyRiver();
        bufferIsEmptyAfterwards();
        report();
    }
}
