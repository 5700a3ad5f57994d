import java.util.NoSuchElementException;

/** Flood marker stones by a river, as ../shared/DOC.md promises them. */
public final class FloodStones {
    private static final int MOST_KEPT = 8;

    private final River now = new River();
    /** What the commands of a text are tried on, so that a refused text leaves the river as it is. */
    private final River trial = new River();
    private final River saved = new River();
    private boolean isSaved = false;
    private final History history = new History(MOST_KEPT);
    private final Refusal refusal = new Refusal();
    private final Text text = new Text();
    private int latestFault = -1;
    private final StringBuilder written = new StringBuilder();
    /** Room for the credits of the floods while they are ranked. */
    private final int[] credits = new int[Floods.MOST];

    public FloodStones() {
    }

    public int stone(int place, int base, int hardness) throws UnsupportedOperationException {
        if (now.refusesStone(place, base, hardness, refusal)) {
            throw new UnsupportedOperationException("the stone is refused");
        }
        history.keep(now);
        return now.stones.add(place, base, hardness);
    }

    public int flood(int year, int crest, int witnesses) throws UnsupportedOperationException {
        if (now.refusesFlood(year, crest, witnesses, refusal)) {
            throw new UnsupportedOperationException("the flood is refused");
        }
        history.keep(now);
        return now.floods.add(year, crest, witnesses);
    }

    public int epoch(int year, int shift) throws UnsupportedOperationException {
        if (now.refusesEpoch(year, shift, refusal)) {
            throw new UnsupportedOperationException("the epoch is refused");
        }
        history.keep(now);
        return now.epochs.tell(year, shift);
    }

    public int chisel() throws UnsupportedOperationException {
        if (now.refusesChisel(refusal)) {
            throw new UnsupportedOperationException("the chisel is refused");
        }
        history.keep(now);
        return now.chisels.add();
    }

    public int cut(int stone, int flood, int chisel) throws UnsupportedOperationException {
        if (now.refusesCut(stone, flood, chisel, refusal)) {
            throw new UnsupportedOperationException("the mark is refused");
        }
        history.keep(now);
        return now.cutMark(stone, flood, chisel);
    }

    public int efface(int stone, int flood) throws UnsupportedOperationException {
        if (now.refusesEfface(stone, flood, refusal)) {
            throw new UnsupportedOperationException("the effacing is refused");
        }
        history.keep(now);
        return now.marks.takeOff(stone, flood);
    }

    public int sharpen(int chisel) throws UnsupportedOperationException {
        if (now.refusesSharpen(chisel, refusal)) {
            throw new UnsupportedOperationException("the sharpening is refused");
        }
        history.keep(now);
        return now.chisels.renew(chisel);
    }

    public int check(int stone) throws UnsupportedOperationException {
        if (now.refusesCheck(stone, refusal)) {
            throw new UnsupportedOperationException("the check is refused");
        }
        history.keep(now);
        return now.stones.setRight(stone);
    }

    public int witness(int flood, int witnesses) throws UnsupportedOperationException {
        if (now.refusesWitness(flood, witnesses, refusal)) {
            throw new UnsupportedOperationException("the witnesses are refused");
        }
        history.keep(now);
        return now.floods.addWitnesses(flood, witnesses);
    }

    public int years(int years) throws UnsupportedOperationException {
        if (now.refusesYears(years, refusal)) {
            throw new UnsupportedOperationException("the years are refused");
        }
        history.keep(now);
        return now.passYears(years);
    }

    public int stoneOf(int stone, int what) throws IndexOutOfBoundsException, IllegalArgumentException {
        if (!now.stones.has(stone)) {
            throw new IndexOutOfBoundsException("no such stone");
        }
        switch (what) {
            case 0: return Rows.at(now.stones.place, stone);
            case 1: return Rows.at(now.stones.base, stone);
            case 2: return Rows.at(now.stones.hardness, stone);
            case 3: return Rows.at(now.stones.error, stone);
            case 4: return now.marks.countOn(stone);
            case 5: return now.doubtsOnStone(stone);
            default: throw new IllegalArgumentException("what is not from 0 to 5");
        }
    }

    public int floodOf(int flood, int what) throws IndexOutOfBoundsException, IllegalArgumentException {
        if (!now.floods.has(flood)) {
            throw new IndexOutOfBoundsException("no such flood");
        }
        switch (what) {
            case 0: return Rows.at(now.floods.year, flood);
            case 1: return Rows.at(now.floods.crest, flood);
            case 2: return Rows.at(now.floods.witnesses, flood);
            case 3: return now.marks.countFor(flood);
            case 4: return now.doubtsOfFlood(flood);
            case 5: return now.creditOf(flood);
            default: throw new IllegalArgumentException("what is not from 0 to 5");
        }
    }

    public int floodIn(int year) throws NoSuchElementException {
        int found = now.floods.findYear(year);
        if (found < 0) {
            throw new NoSuchElementException("no flood is told for the year");
        }
        return found;
    }

    public int before(int year) throws NoSuchElementException {
        int found = now.floods.findLatestAhead(year);
        if (found < 0) {
            throw new NoSuchElementException("no flood is told for a lesser year");
        }
        return found;
    }

    public int edge(int chisel) throws IndexOutOfBoundsException {
        if (!now.chisels.has(chisel)) {
            throw new IndexOutOfBoundsException("no such chisel");
        }
        return Rows.at(now.chisels.sharpness, chisel);
    }

    public int markOf(int stone, int flood, int what)
            throws IndexOutOfBoundsException, IllegalArgumentException, NoSuchElementException {
        if (!now.stones.has(stone) || !now.floods.has(flood)) {
            throw new IndexOutOfBoundsException("no such stone or flood");
        }
        if (what < 0 || what > 4) {
            throw new IllegalArgumentException("what is not from 0 to 4");
        }
        if (!now.marks.has(stone, flood)) {
            throw new NoSuchElementException("no such mark");
        }
        switch (what) {
            case 0: return now.marks.heightAt(stone, flood);
            case 1: return now.marks.depthAt(stone, flood);
            case 2: return now.marks.cutYearAt(stone, flood);
            case 3: return now.trueHeight(stone, flood);
            default: return now.yearsLeft(stone, flood);
        }
    }

    public int mark(int stone, int place) throws IndexOutOfBoundsException, NoSuchElementException {
        if (!now.stones.has(stone)) {
            throw new IndexOutOfBoundsException("no such stone");
        }
        int found = now.marks.floodAtPlace(stone, place);
        if (found < 0) {
            throw new NoSuchElementException("no such place");
        }
        return found;
    }

    public int level(int stone, int flood) throws IndexOutOfBoundsException {
        if (!now.stones.has(stone) || !now.floods.has(flood)) {
            throw new IndexOutOfBoundsException("no such stone or flood");
        }
        return now.levelAt(stone, flood);
    }

    public int reads(int stone, int flood) throws IndexOutOfBoundsException {
        if (!now.stones.has(stone) || !now.floods.has(flood)) {
            throw new IndexOutOfBoundsException("no such stone or flood");
        }
        return now.readingAt(stone, flood);
    }

    public int shift(int year) throws IllegalArgumentException {
        if (year < 0 || year > Epochs.LATEST) {
            throw new IllegalArgumentException("the year is not from 0 to 999");
        }
        return now.epochs.shiftIn(year);
    }

    public int errorIn(int stone, int years) throws IndexOutOfBoundsException, IllegalArgumentException {
        if (!now.stones.has(stone)) {
            throw new IndexOutOfBoundsException("no such stone");
        }
        if (years < 0 || years > River.MOST_YEARS) {
            throw new IllegalArgumentException("the years are not from 0 to 60");
        }
        return now.errorAfter(stone, years);
    }

    public boolean rises(int stone) throws IndexOutOfBoundsException {
        if (!now.stones.has(stone)) {
            throw new IndexOutOfBoundsException("no such stone");
        }
        return now.doubtsOnStone(stone) == 0;
    }

    public int ranked(int rank) throws NoSuchElementException {
        for (int flood = 0; flood < now.floods.count; flood++) {
            Rows.set(credits, flood, now.creditOf(flood));
        }
        int found = now.floodAtRank(rank, credits);
        if (found < 0) {
            throw new NoSuchElementException("no such rank");
        }
        return found;
    }

    public int doubts() {
        return now.doubtsByStones();
    }

    public int doubtsAgain() {
        return now.doubtsByFloods();
    }

    public int append(char character) throws IllegalStateException {
        if (text.isFull()) {
            throw new IllegalStateException("the text buffer is full");
        }
        return text.put(character);
    }

    public int commands() throws IllegalArgumentException, UnsupportedOperationException {
        latestFault = text.scan();
        text.empty();
        if (latestFault >= 0) {
            throw new IllegalArgumentException("the text has a fault");
        }
        trial.copyFrom(now);
        int count = text.found;
        for (int command = 0; command < count; command++) {
            if (isRefused(command)) {
                refusal.command = command;
                throw new UnsupportedOperationException("a command is refused");
            }
            carryOut(command);
        }
        history.keep(now);
        now.copyFrom(trial);
        return count;
    }

    private boolean isRefused(int command) {
        int first = text.numberOf(command, 0);
        int second = text.numberOf(command, 1);
        switch (text.kindOf(command)) {
            case 'm': return trial.refusesCut(first, second, text.numberOf(command, 2), refusal);
            case 'x': return trial.refusesEfface(first, second, refusal);
            case 'k': return trial.refusesCheck(first, refusal);
            case 's': return trial.refusesSharpen(first, refusal);
            case 'w': return trial.refusesWitness(first, second, refusal);
            default: return trial.refusesYears(first, refusal);
        }
    }

    private void carryOut(int command) {
        int first = text.numberOf(command, 0);
        int second = text.numberOf(command, 1);
        switch (text.kindOf(command)) {
            case 'm':
                trial.cutMark(first, second, text.numberOf(command, 2));
                break;
            case 'x':
                trial.marks.takeOff(first, second);
                break;
            case 'k':
                trial.stones.setRight(first);
                break;
            case 's':
                trial.chisels.renew(first);
                break;
            case 'w':
                trial.floods.addWitnesses(first, second);
                break;
            default:
                trial.passYears(first);
                break;
        }
    }

    public int faultPosition() {
        return latestFault;
    }

    public int reason(int what) throws IllegalArgumentException, NoSuchElementException {
        if (what < 0 || what > 2) {
            throw new IllegalArgumentException("what is not from 0 to 2");
        }
        if (refusal.number == 0) {
            throw new NoSuchElementException("nothing was refused");
        }
        switch (what) {
            case 0: return refusal.number;
            case 1: return refusal.detail;
            default: return refusal.command;
        }
    }

    public int line(int stone) throws IndexOutOfBoundsException {
        if (!now.stones.has(stone)) {
            throw new IndexOutOfBoundsException("no such stone");
        }
        written.setLength(0);
        written.append(stone).append(':');
        int count = now.marks.countOn(stone);
        for (int place = 0; place < count; place++) {
            int flood = now.marks.floodAtPlace(stone, place);
            written.append(' ').append(now.marks.heightAt(stone, flood));
            written.append('=').append(Rows.at(now.floods.year, flood));
        }
        return written.length();
    }

    public char character(int index) throws IndexOutOfBoundsException {
        if (index < 0 || index >= written.length()) {
            throw new IndexOutOfBoundsException("no such index");
        }
        return written.charAt(index);
    }

    public double estimate(int flood) throws IndexOutOfBoundsException, ArithmeticException {
        if (!now.floods.has(flood)) {
            throw new IndexOutOfBoundsException("no such flood");
        }
        int count = now.marks.countFor(flood);
        if (count == 0) {
            throw new ArithmeticException("there are no marks for the flood");
        }
        return (double) now.crestsTold(flood) / (double) count;
    }

    public float meanEdge() throws ArithmeticException {
        int count = now.chisels.count;
        if (count == 0) {
            throw new ArithmeticException("there are no chisels");
        }
        return (float) now.chisels.sum() / (float) count;
    }

    public int account(int what) throws IllegalArgumentException {
        switch (what) {
            case 0: return now.year;
            case 1: return now.stones.count;
            case 2: return now.floods.count;
            case 3: return now.epochs.count;
            case 4: return now.chisels.count;
            case 5: return now.marks.countAll();
            case 6: return now.marks.made;
            case 7: return now.marks.effaced;
            case 8: return now.marks.weathered;
            case 9: return now.stonesInDoubt();
            case 10: return history.count;
            case 11: return text.length;
            default: throw new IllegalArgumentException("what is not from 0 to 11");
        }
    }

    public int undo() throws IllegalStateException {
        if (history.count == 0) {
            throw new IllegalStateException("nothing can be undone");
        }
        history.takeBack(now);
        return history.count;
    }

    public int save() {
        saved.copyFrom(now);
        isSaved = true;
        return now.year;
    }

    public int restore() throws IllegalStateException {
        if (!isSaved) {
            throw new IllegalStateException("there is no snapshot");
        }
        now.copyFrom(saved);
        history.forget();
        return now.year;
    }

    /** Reading and writing of rows that never leave them. */
    private static final class Rows {
        static int at(int[] row, int index) {
            return index >= 0 && index < row.length ? row[index] : 0;
        }

        static void set(int[] row, int index, int value) {
            if (index >= 0 && index < row.length) {
                row[index] = value;
            }
        }

        static void copy(int[] from, int[] to) {
            System.arraycopy(from, 0, to, 0, Math.min(from.length, to.length));
        }
    }

    /** Why the latest refused call was refused. */
    private static final class Refusal {
        static final int RANGE = 1;
        static final int TOO_MANY = 2;
        static final int UNKNOWN = 3;
        static final int YEAR_TAKEN = 4;
        static final int MARKED = 5;
        static final int NOT_REACHED = 6;
        static final int HEIGHT = 7;
        static final int BLUNT = 8;
        static final int HEIGHT_TAKEN = 9;
        static final int UNMARKED = 10;

        /** 0 as long as nothing was refused. */
        int number = 0;
        int detail = 0;
        int command = 0;

        /** Keeps a reason; answers true, so that a check can end with it. */
        boolean give(int newNumber, int newDetail) {
            number = newNumber;
            detail = newDetail;
            command = 0;
            return true;
        }
    }

    private static final class Stones {
        static final int MOST = 6;
        static final int MOST_ERROR = 9;

        int count = 0;
        final int[] place = new int[MOST];
        final int[] base = new int[MOST];
        final int[] hardness = new int[MOST];
        final int[] error = new int[MOST];

        void copyFrom(Stones other) {
            count = other.count;
            Rows.copy(other.place, place);
            Rows.copy(other.base, base);
            Rows.copy(other.hardness, hardness);
            Rows.copy(other.error, error);
        }

        boolean has(int stone) {
            return stone >= 0 && stone < count;
        }

        int add(int newPlace, int newBase, int newHardness) {
            int added = count;
            Rows.set(place, added, newPlace);
            Rows.set(base, added, newBase);
            Rows.set(hardness, added, newHardness);
            Rows.set(error, added, 0);
            count = added + 1;
            return added;
        }

        int setRight(int stone) {
            int earlier = Rows.at(error, stone);
            Rows.set(error, stone, 0);
            return earlier;
        }

        void driftAll() {
            for (int stone = 0; stone < count; stone++) {
                Rows.set(error, stone, drift(Rows.at(error, stone)));
            }
        }

        static int drift(int error) {
            return error >= 0 ? Math.min(error + 1, MOST_ERROR) : Math.max(error - 1, -MOST_ERROR);
        }

        /** By how much the water at a stone stands lower on it than its crest. */
        int loss(int stone) {
            return Rows.at(place, stone) / 5 + Rows.at(base, stone);
        }
    }

    private static final class Floods {
        static final int MOST = 12;
        static final int MOST_WITNESSES = 99;

        int count = 0;
        final int[] year = new int[MOST];
        final int[] crest = new int[MOST];
        final int[] witnesses = new int[MOST];

        void copyFrom(Floods other) {
            count = other.count;
            Rows.copy(other.year, year);
            Rows.copy(other.crest, crest);
            Rows.copy(other.witnesses, witnesses);
        }

        boolean has(int flood) {
            return flood >= 0 && flood < count;
        }

        int add(int newYear, int newCrest, int newWitnesses) {
            int added = count;
            Rows.set(year, added, newYear);
            Rows.set(crest, added, newCrest);
            Rows.set(witnesses, added, newWitnesses);
            count = added + 1;
            return added;
        }

        int addWitnesses(int flood, int more) {
            int sum = Rows.at(witnesses, flood) + more;
            Rows.set(witnesses, flood, sum);
            return sum;
        }

        /** The flood of a year, or -1. */
        int findYear(int wanted) {
            for (int flood = 0; flood < count; flood++) {
                if (Rows.at(year, flood) == wanted) {
                    return flood;
                }
            }
            return -1;
        }

        /** The flood with the greatest year below a year, or -1. */
        int findLatestAhead(int limit) {
            int found = -1;
            for (int flood = 0; flood < count; flood++) {
                int told = Rows.at(year, flood);
                if (told < limit && (found < 0 || told > Rows.at(year, found))) {
                    found = flood;
                }
            }
            return found;
        }
    }

    private static final class Epochs {
        static final int MOST = 4;
        static final int LATEST = 999;

        int count = 0;
        final int[] from = new int[MOST];
        final int[] amount = new int[MOST];

        void copyFrom(Epochs other) {
            count = other.count;
            Rows.copy(other.from, from);
            Rows.copy(other.amount, amount);
        }

        /** The index of the epoch from a year on, or -1. */
        int find(int year) {
            for (int epoch = 0; epoch < count; epoch++) {
                if (Rows.at(from, epoch) == year) {
                    return epoch;
                }
            }
            return -1;
        }

        int tell(int year, int newAmount) {
            int epoch = find(year);
            if (epoch < 0) {
                epoch = count;
                count++;
            }
            Rows.set(from, epoch, year);
            Rows.set(amount, epoch, newAmount);
            return count;
        }

        int shiftIn(int year) {
            int latest = -1;
            int result = 0;
            for (int epoch = 0; epoch < count; epoch++) {
                int start = Rows.at(from, epoch);
                if (start <= year && start > latest) {
                    latest = start;
                    result = Rows.at(amount, epoch);
                }
            }
            return result;
        }
    }

    private static final class Chisels {
        static final int MOST = 3;
        static final int SHARP = 20;

        int count = 0;
        final int[] sharpness = new int[MOST];

        void copyFrom(Chisels other) {
            count = other.count;
            Rows.copy(other.sharpness, sharpness);
        }

        boolean has(int chisel) {
            return chisel >= 0 && chisel < count;
        }

        int add() {
            int added = count;
            Rows.set(sharpness, added, SHARP);
            count = added + 1;
            return added;
        }

        int renew(int chisel) {
            int earlier = Rows.at(sharpness, chisel);
            Rows.set(sharpness, chisel, SHARP);
            return earlier;
        }

        void blunt(int chisel, int by) {
            Rows.set(sharpness, chisel, Rows.at(sharpness, chisel) - by);
        }

        int sum() {
            int total = 0;
            for (int chisel = 0; chisel < count; chisel++) {
                total += Rows.at(sharpness, chisel);
            }
            return total;
        }
    }

    /** The marks, a cell for each flood on each stone; a depth of 0 tells that there is none. */
    private static final class Marks {
        static final int MOST_ON_STONE = 6;
        static final int CELLS = Stones.MOST * Floods.MOST;

        final int[] height = new int[CELLS];
        final int[] depth = new int[CELLS];
        final int[] cutYear = new int[CELLS];
        int made = 0;
        int effaced = 0;
        int weathered = 0;

        void copyFrom(Marks other) {
            Rows.copy(other.height, height);
            Rows.copy(other.depth, depth);
            Rows.copy(other.cutYear, cutYear);
            made = other.made;
            effaced = other.effaced;
            weathered = other.weathered;
        }

        static int cell(int stone, int flood) {
            return stone * Floods.MOST + flood;
        }

        boolean has(int stone, int flood) {
            return Rows.at(depth, cell(stone, flood)) > 0;
        }

        int heightAt(int stone, int flood) {
            return Rows.at(height, cell(stone, flood));
        }

        int depthAt(int stone, int flood) {
            return Rows.at(depth, cell(stone, flood));
        }

        int cutYearAt(int stone, int flood) {
            return Rows.at(cutYear, cell(stone, flood));
        }

        void add(int cell, int newHeight, int newDepth, int year) {
            Rows.set(height, cell, newHeight);
            Rows.set(depth, cell, newDepth);
            Rows.set(cutYear, cell, year);
            made++;
        }

        int takeOff(int stone, int flood) {
            Rows.set(depth, cell(stone, flood), 0);
            effaced++;
            return heightAt(stone, flood);
        }

        /** Makes each mark less deep by 1; answers how many are gone by it. */
        int weatherAll() {
            int gone = 0;
            for (int cell = 0; cell < CELLS; cell++) {
                int left = Rows.at(depth, cell);
                if (left > 0) {
                    Rows.set(depth, cell, left - 1);
                    gone += left == 1 ? 1 : 0;
                }
            }
            weathered += gone;
            return gone;
        }

        int countOn(int stone) {
            int count = 0;
            for (int flood = 0; flood < Floods.MOST; flood++) {
                count += has(stone, flood) ? 1 : 0;
            }
            return count;
        }

        int countFor(int flood) {
            int count = 0;
            for (int stone = 0; stone < Stones.MOST; stone++) {
                count += has(stone, flood) ? 1 : 0;
            }
            return count;
        }

        int countAll() {
            int count = 0;
            for (int stone = 0; stone < Stones.MOST; stone++) {
                count += countOn(stone);
            }
            return count;
        }

        /** The flood of the mark at a height of a stone, or -1. */
        int floodAtHeight(int stone, int wanted) {
            for (int flood = 0; flood < Floods.MOST; flood++) {
                if (has(stone, flood) && heightAt(stone, flood) == wanted) {
                    return flood;
                }
            }
            return -1;
        }

        /** The flood of the mark with so many lower ones on its stone, or -1. */
        int floodAtPlace(int stone, int place) {
            for (int flood = 0; flood < Floods.MOST; flood++) {
                if (has(stone, flood) && countLower(stone, heightAt(stone, flood)) == place) {
                    return flood;
                }
            }
            return -1;
        }

        private int countLower(int stone, int limit) {
            int count = 0;
            for (int flood = 0; flood < Floods.MOST; flood++) {
                count += has(stone, flood) && heightAt(stone, flood) < limit ? 1 : 0;
            }
            return count;
        }
    }

    /** All that can be undone. */
    private static final class River {
        static final int FIRST_YEAR = 100;
        static final int MOST_YEARS = 60;
        static final int DRIFT_YEARS = 3;
        static final int WEATHER_YEARS = 5;

        int year = FIRST_YEAR;
        final Stones stones = new Stones();
        final Floods floods = new Floods();
        final Epochs epochs = new Epochs();
        final Chisels chisels = new Chisels();
        final Marks marks = new Marks();

        void copyFrom(River other) {
            year = other.year;
            stones.copyFrom(other.stones);
            floods.copyFrom(other.floods);
            epochs.copyFrom(other.epochs);
            chisels.copyFrom(other.chisels);
            marks.copyFrom(other.marks);
        }

        private static boolean isOutside(int value, int least, int most) {
            return value < least || value > most;
        }

        boolean refusesStone(int place, int base, int hardness, Refusal refusal) {
            if (isOutside(place, 0, 50) || isOutside(base, 0, 30) || isOutside(hardness, 1, 5)) {
                return refusal.give(Refusal.RANGE, 0);
            }
            return stones.count >= Stones.MOST && refusal.give(Refusal.TOO_MANY, Stones.MOST);
        }

        boolean refusesFlood(int newYear, int crest, int witnesses, Refusal refusal) {
            if (isOutside(newYear, 0, year) || isOutside(crest, 1, 99)
                    || isOutside(witnesses, 0, Floods.MOST_WITNESSES)) {
                return refusal.give(Refusal.RANGE, 0);
            }
            int told = floods.findYear(newYear);
            if (told >= 0) {
                return refusal.give(Refusal.YEAR_TAKEN, told);
            }
            return floods.count >= Floods.MOST && refusal.give(Refusal.TOO_MANY, Floods.MOST);
        }

        boolean refusesEpoch(int from, int amount, Refusal refusal) {
            if (isOutside(from, 0, Epochs.LATEST) || isOutside(amount, -9, 9)) {
                return refusal.give(Refusal.RANGE, 0);
            }
            return epochs.count >= Epochs.MOST && epochs.find(from) < 0
                    && refusal.give(Refusal.TOO_MANY, Epochs.MOST);
        }

        boolean refusesChisel(Refusal refusal) {
            return chisels.count >= Chisels.MOST && refusal.give(Refusal.TOO_MANY, Chisels.MOST);
        }

        boolean refusesCut(int stone, int flood, int chisel, Refusal refusal) {
            if (!stones.has(stone)) {
                return refusal.give(Refusal.UNKNOWN, stone);
            }
            if (!floods.has(flood)) {
                return refusal.give(Refusal.UNKNOWN, flood);
            }
            if (!chisels.has(chisel)) {
                return refusal.give(Refusal.UNKNOWN, chisel);
            }
            if (marks.has(stone, flood)) {
                return refusal.give(Refusal.MARKED, marks.heightAt(stone, flood));
            }
            int level = levelAt(stone, flood);
            if (level < 1) {
                return refusal.give(Refusal.NOT_REACHED, 1 - level);
            }
            int height = readingAt(stone, flood);
            if (isOutside(height, 0, 99)) {
                return refusal.give(Refusal.HEIGHT, height);
            }
            int edge = Rows.at(chisels.sharpness, chisel);
            if (edge < Rows.at(stones.hardness, stone)) {
                return refusal.give(Refusal.BLUNT, edge);
            }
            int other = marks.floodAtHeight(stone, height);
            if (other >= 0) {
                return refusal.give(Refusal.HEIGHT_TAKEN, other);
            }
            return marks.countOn(stone) >= Marks.MOST_ON_STONE
                    && refusal.give(Refusal.TOO_MANY, Marks.MOST_ON_STONE);
        }

        boolean refusesEfface(int stone, int flood, Refusal refusal) {
            if (!stones.has(stone)) {
                return refusal.give(Refusal.UNKNOWN, stone);
            }
            if (!floods.has(flood)) {
                return refusal.give(Refusal.UNKNOWN, flood);
            }
            return !marks.has(stone, flood) && refusal.give(Refusal.UNMARKED, flood);
        }

        boolean refusesSharpen(int chisel, Refusal refusal) {
            return !chisels.has(chisel) && refusal.give(Refusal.UNKNOWN, chisel);
        }

        boolean refusesCheck(int stone, Refusal refusal) {
            return !stones.has(stone) && refusal.give(Refusal.UNKNOWN, stone);
        }

        boolean refusesWitness(int flood, int more, Refusal refusal) {
            if (!floods.has(flood)) {
                return refusal.give(Refusal.UNKNOWN, flood);
            }
            if (isOutside(more, 1, 9)) {
                return refusal.give(Refusal.RANGE, 0);
            }
            return Rows.at(floods.witnesses, flood) + more > Floods.MOST_WITNESSES
                    && refusal.give(Refusal.TOO_MANY, Floods.MOST_WITNESSES);
        }

        boolean refusesYears(int more, Refusal refusal) {
            return isOutside(more, 1, MOST_YEARS) && refusal.give(Refusal.RANGE, 0);
        }

        int cutMark(int stone, int flood, int chisel) {
            int height = readingAt(stone, flood);
            int depth = Rows.at(chisels.sharpness, chisel) / 2 + 1;
            marks.add(Marks.cell(stone, flood), height, depth, year);
            chisels.blunt(chisel, Rows.at(stones.hardness, stone));
            return height;
        }

        /** Lets years go by; answers how many marks are gone in them. */
        int passYears(int more) {
            int gone = 0;
            for (int passed = 0; passed < more; passed++) {
                year++;
                if (year % DRIFT_YEARS == 0) {
                    stones.driftAll();
                }
                if (year % WEATHER_YEARS == 0) {
                    gone += marks.weatherAll();
                }
            }
            return gone;
        }

        int errorAfter(int stone, int more) {
            int error = Rows.at(stones.error, stone);
            for (int passed = 1; passed <= more; passed++) {
                if ((year + passed) % DRIFT_YEARS == 0) {
                    error = Stones.drift(error);
                }
            }
            return error;
        }

        /** After how many years a mark is gone: its depth tells how many weatherings are to come. */
        int yearsLeft(int stone, int flood) {
            int last = (year / WEATHER_YEARS + marks.depthAt(stone, flood)) * WEATHER_YEARS;
            return last - year;
        }

        int levelAt(int stone, int flood) {
            return Rows.at(floods.crest, flood) - stones.loss(stone);
        }

        int readingAt(int stone, int flood) {
            return levelAt(stone, flood) + Rows.at(stones.error, stone) + epochs.shiftIn(year);
        }

        int trueHeight(int stone, int flood) {
            return marks.heightAt(stone, flood) - epochs.shiftIn(marks.cutYearAt(stone, flood));
        }

        /** Whether a stone has marks for both floods, and these are in doubt. */
        boolean areInDoubt(int stone, int flood, int other) {
            if (flood == other || !marks.has(stone, flood) || !marks.has(stone, other)) {
                return false;
            }
            int moreCrest = Rows.at(floods.crest, flood) - Rows.at(floods.crest, other);
            int moreHeight = trueHeight(stone, flood) - trueHeight(stone, other);
            if (moreCrest == 0) {
                return moreHeight != 0;
            }
            return moreCrest > 0 ? moreHeight <= 0 : moreHeight >= 0;
        }

        int doubtsOnStone(int stone) {
            int count = 0;
            for (int flood = 0; flood < floods.count; flood++) {
                for (int other = 0; other < flood; other++) {
                    count += areInDoubt(stone, flood, other) ? 1 : 0;
                }
            }
            return count;
        }

        int doubtsOfFlood(int flood) {
            int count = 0;
            for (int stone = 0; stone < stones.count; stone++) {
                for (int other = 0; other < floods.count; other++) {
                    count += areInDoubt(stone, flood, other) ? 1 : 0;
                }
            }
            return count;
        }

        int doubtsByStones() {
            int count = 0;
            for (int stone = 0; stone < stones.count; stone++) {
                count += doubtsOnStone(stone);
            }
            return count;
        }

        int doubtsByFloods() {
            int count = 0;
            for (int flood = 0; flood < floods.count; flood++) {
                count += doubtsOfFlood(flood);
            }
            return count / 2;
        }

        int stonesInDoubt() {
            int count = 0;
            for (int stone = 0; stone < stones.count; stone++) {
                count += doubtsOnStone(stone) > 0 ? 1 : 0;
            }
            return count;
        }

        int creditOf(int flood) {
            return Math.max(0, 10 * Rows.at(floods.witnesses, flood) - 5 * doubtsOfFlood(flood));
        }

        /** The flood with so many others ahead of it by the credits in the row, or -1. */
        int floodAtRank(int rank, int[] credits) {
            for (int flood = 0; flood < floods.count; flood++) {
                int ahead = 0;
                for (int other = 0; other < floods.count; other++) {
                    ahead += isAhead(other, flood, credits) ? 1 : 0;
                }
                if (ahead == rank) {
                    return flood;
                }
            }
            return -1;
        }

        private boolean isAhead(int flood, int other, int[] credits) {
            int moreCredit = Rows.at(credits, flood) - Rows.at(credits, other);
            if (moreCredit != 0) {
                return moreCredit > 0;
            }
            int moreCrest = Rows.at(floods.crest, flood) - Rows.at(floods.crest, other);
            if (moreCrest != 0) {
                return moreCrest > 0;
            }
            return Rows.at(floods.year, flood) < Rows.at(floods.year, other);
        }

        /** The sum of the crests that the marks for a flood tell. */
        int crestsTold(int flood) {
            int sum = 0;
            for (int stone = 0; stone < stones.count; stone++) {
                if (marks.has(stone, flood)) {
                    sum += trueHeight(stone, flood) + stones.loss(stone);
                }
            }
            return sum;
        }
    }

    /** What there was before each of the latest changes, in a ring of rivers that are used again. */
    private static final class History {
        final River[] ring;
        int next = 0;
        int count = 0;

        History(int most) {
            ring = new River[most > 0 ? most : 1];
            for (int slot = 0; slot < ring.length; slot++) {
                ring[slot] = new River();
            }
        }

        private River slotAt(int slot) {
            return slot >= 0 && slot < ring.length ? ring[slot] : null;
        }

        void keep(River river) {
            River slot = slotAt(next);
            if (slot == null) {
                return;
            }
            slot.copyFrom(river);
            next = next + 1 < ring.length ? next + 1 : 0;
            count = Math.min(count + 1, ring.length);
        }

        /** Puts the latest kept river back into the given one. */
        void takeBack(River river) {
            int latest = next > 0 ? next - 1 : ring.length - 1;
            River slot = slotAt(latest);
            if (slot == null || count == 0) {
                return;
            }
            river.copyFrom(slot);
            next = latest;
            count--;
        }

        void forget() {
            count = 0;
        }
    }

    /** The text buffer, and the commands that the latest scan found in it. */
    private static final class Text {
        static final int MOST = 60;
        static final int MOST_NUMBERS = 3;
        /** In the forms of commands: a number of one digit, and one of one or two digits. */
        static final char SHORT = '1';
        static final char LONG = '2';

        final char[] signs = new char[MOST];
        int length = 0;
        final int[] kinds = new int[MOST];
        final int[] numbers = new int[MOST * MOST_NUMBERS];
        int found = 0;
        private int position = 0;

        boolean isFull() {
            return length >= MOST;
        }

        int put(char sign) {
            if (length >= 0 && length < signs.length) {
                signs[length] = sign;
                length++;
            }
            return length;
        }

        void empty() {
            length = 0;
        }

        int kindOf(int command) {
            return Rows.at(kinds, command);
        }

        int numberOf(int command, int which) {
            return Rows.at(numbers, command * MOST_NUMBERS + which);
        }

        /** Finds the commands; answers the position of the fault, or -1 if there is none. */
        int scan() {
            position = 0;
            found = 0;
            for (int command = 0; command < MOST; command++) {
                if (!readCommand(command)) {
                    return position;
                }
                if (position >= length) {
                    found = command + 1;
                    return -1;
                }
                if (signHere() != ';') {
                    return position;
                }
                position++;
            }
            return position;
        }

        /** The sign at the position; behind the end one that continues nothing. */
        private char signHere() {
            return position >= 0 && position < length && position < signs.length ? signs[position] : (char) 0;
        }

        /** What follows the letter of a command, or nothing if there is no such command. */
        private static String formOf(char kind) {
            switch (kind) {
                case 'm': return "1:2/1";
                case 'x': return "1:2";
                case 'k': return "1";
                case 's': return "1";
                case 'w': return "2+1";
                case 'y': return "2";
                default: return "";
            }
        }

        private boolean readCommand(int command) {
            char kind = signHere();
            String form = formOf(kind);
            if (form.isEmpty()) {
                return false;
            }
            position++;
            Rows.set(kinds, command, kind);
            int filled = command * MOST_NUMBERS;
            for (int part = 0; part < form.length(); part++) {
                char due = form.charAt(part);
                if (due == SHORT || due == LONG) {
                    if (!isDigit(signHere())) {
                        return false;
                    }
                    Rows.set(numbers, filled, readNumber(due == LONG));
                    filled++;
                } else if (signHere() == due) {
                    position++;
                } else {
                    return false;
                }
            }
            return true;
        }

        private static boolean isDigit(char sign) {
            return sign >= '0' && sign <= '9';
        }

        /** Reads a number at a digit, and a second digit if it may have one. */
        private int readNumber(boolean isLong) {
            int number = readDigit();
            if (isLong && isDigit(signHere())) {
                number = 10 * number + readDigit();
            }
            return number;
        }

        private int readDigit() {
            int digit = signHere() - '0';
            position++;
            return digit;
        }
    }
}
