import java.util.NoSuchElementException;

/** A yard of hopscotch with magistrates; what it does is told, promise by promise, in ../shared/DOC.md. */
public final class ChalkWarrants {
    private static final int SQUARES = 12;
    private static final int CHILDREN = 5;
    private static final int NOBODY = -1;
    private static final int MOST_CHALK = 9;
    private static final int MOST_PEBBLES = 99;
    private static final int TREADS_FOR_A_WARRANT = 3;
    private static final int MOST_STEPS = 12;
    private static final int MOST_DIGITS = 9;
    private static final int GREATEST_STEP = 3;
    private static final int MOST_SIGNS = 60;
    private static final int MOST_UNDONE = 8;
    private static final int TERMS_AHEAD = 40;
    private static final int NO_FAULT = -1;
    private static final int STEPS_FIT = -1;

    private final Yard yard = new Yard();
    private final Yard before = new Yard();
    private final Yard trial = new Yard();
    private final Yard snapshot = new Yard();
    private final Past past = new Past();
    private final Reasons reasons = new Reasons();
    private final Command command = new Command();
    private final Signs text = new Signs();
    private final Reader reader = new Reader();
    private final Signs written = new Signs();
    private final Ways ways = new Ways();
    private final Steps told = new Steps();
    private boolean isSaved;
    private int fault = NO_FAULT;

    public ChalkWarrants() {
    }

    public int child(int pebbles) throws UnsupportedOperationException {
        command.set('n', 0, 0, pebbles);
        return change();
    }

    public int chalk(int child, int square) throws UnsupportedOperationException {
        command.set('c', child, 0, square);
        return change();
    }

    public int hop(int child, int steps) throws UnsupportedOperationException {
        command.set('h', child, 0, 0);
        command.steps.readFrom(steps);
        return change();
    }

    public int warrant(int child) throws UnsupportedOperationException {
        command.set('w', child, 0, 0);
        return change();
    }

    public int strike(int child) throws UnsupportedOperationException {
        command.set('s', child, 0, 0);
        return change();
    }

    public int rain(int rain) throws UnsupportedOperationException {
        command.set('r', 0, 0, rain);
        return change();
    }

    public int term() throws UnsupportedOperationException {
        command.set('t', 0, 0, 0);
        return change();
    }

    public int give(int child, int other, int pebbles) throws UnsupportedOperationException {
        command.set('g', child, other, pebbles);
        return change();
    }

    public int squareOf(int square, boolean isChalk) throws IndexOutOfBoundsException {
        if (square < 0 || square >= SQUARES) {
            throw new IndexOutOfBoundsException();
        }
        return isChalk ? yard.chalks[square] : yard.owners[square];
    }

    public int childOf(int child, int what) throws IndexOutOfBoundsException, IllegalArgumentException {
        checkChild(child);
        switch (what) {
            case 0: return yard.pebbles[child];
            case 1: return yard.treads[child];
            case 2: return yard.warrantChalks[child];
            case 3: return yard.countOwned(child);
            case 4: return yard.sumChalk(child);
            case 5: return yard.hops[child];
            case 6: return yard.trodden[child];
            default: throw new IllegalArgumentException();
        }
    }

    public int squares(int child) throws IndexOutOfBoundsException {
        checkChild(child);
        return yard.ownedFrom(child, 0);
    }

    public int warrantAt(int place) throws NoSuchElementException {
        if (place < 0 || place >= yard.standing) {
            throw new NoSuchElementException();
        }
        return yard.order[place];
    }

    public int fewest(int child) throws IndexOutOfBoundsException {
        checkChild(child);
        return ways.fewestBack(yard, child);
    }

    public int fewestAgain(int child) throws IndexOutOfBoundsException {
        checkChild(child);
        return ways.fewestOn(yard, child);
    }

    public int step(int child, int place) throws IndexOutOfBoundsException, NoSuchElementException {
        checkChild(child);
        ways.fewestBack(yard, child);
        ways.tellBest(told);
        if (place < 0 || place >= told.count) {
            throw new NoSuchElementException();
        }
        return told.row[place];
    }

    public int wouldTread(int child, int steps) throws IndexOutOfBoundsException, IllegalArgumentException {
        checkChild(child);
        told.readFrom(steps);
        if (told.count == 0 || told.misfit() != STEPS_FIT) {
            throw new IllegalArgumentException();
        }
        return yard.countTreads(child, told);
    }

    public int longest(int child) throws IndexOutOfBoundsException {
        checkChild(child);
        return yard.longestRun(child);
    }

    public int gap() {
        return yard.longestRun(NOBODY);
    }

    public int wouldEnd(int rain) throws IllegalArgumentException {
        if (rain < 1 || rain > MOST_CHALK) {
            throw new IllegalArgumentException();
        }
        trial.copyFrom(yard);
        return trial.wash(rain);
    }

    public int rainFor(int child) throws IndexOutOfBoundsException, NoSuchElementException {
        checkChild(child);
        if (yard.warrantChalks[child] == 0) {
            throw new NoSuchElementException();
        }
        return yard.warrantChalks[child];
    }

    public int wouldLose(int child) throws IndexOutOfBoundsException {
        checkChild(child);
        return yard.ownedFrom(child, yard.pebbles[child]);
    }

    public int termsFor(int child) throws IndexOutOfBoundsException, NoSuchElementException {
        checkChild(child);
        trial.copyFrom(yard);
        for (int term = 1; term <= TERMS_AHEAD; term++) {
            int owned = trial.countOwned(child);
            trial.endTerm();
            if (trial.countOwned(child) < owned) {
                return term;
            }
        }
        throw new NoSuchElementException();
    }

    public int ranked(int measure, int place) throws IllegalArgumentException, NoSuchElementException {
        if (measure < 0 || measure > 3) {
            throw new IllegalArgumentException();
        }
        if (place < 0 || place >= yard.children) {
            throw new NoSuchElementException();
        }
        int found = NOBODY;
        for (int child = 0; child < yard.children; child++) {
            if (yard.countAhead(child, measure) == place) {
                found = child;
            }
        }
        return found;
    }

    public boolean isEven() {
        return yard.brought == yard.sumPebbles() + yard.chest && yard.isChalkedJustIfOwned();
    }

    public int append(char character) throws IllegalStateException {
        if (text.length >= MOST_SIGNS) {
            throw new IllegalStateException();
        }
        text.put(character);
        return text.length;
    }

    public int commands() throws IllegalArgumentException, UnsupportedOperationException {
        fault = reader.findFault(text, command);
        if (fault != NO_FAULT) {
            text.length = 0;
            throw new IllegalArgumentException();
        }
        before.copyFrom(yard);
        int carriedOut = carryOutText();
        text.length = 0;
        if (carriedOut == 0) {
            yard.copyFrom(before);
            throw new UnsupportedOperationException();
        }
        past.keep(before);
        return carriedOut;
    }

    public int faultPosition() {
        return fault;
    }

    public int reason(int what) throws IllegalArgumentException, NoSuchElementException {
        if (what < 0 || what > 2) {
            throw new IllegalArgumentException();
        }
        if (reasons.number == 0) {
            throw new NoSuchElementException();
        }
        if (what == 0) {
            return reasons.number;
        }
        return what == 1 ? reasons.detail : reasons.command;
    }

    public int line() {
        written.length = 0;
        for (int square = 0; square < SQUARES; square++) {
            putBlankBetween();
            if (yard.owners[square] == NOBODY) {
                written.put('.');
            } else {
                putPair(yard.owners[square], '/', yard.chalks[square]);
            }
        }
        return written.length;
    }

    public int warrants() {
        written.length = 0;
        for (int place = 0; place < yard.standing; place++) {
            int child = yard.order[place];
            putBlankBetween();
            putPair(child, '!', yard.warrantChalks[child]);
        }
        return written.length;
    }

    public char character(int index) throws IndexOutOfBoundsException {
        if (index < 0 || index >= written.length) {
            throw new IndexOutOfBoundsException();
        }
        return written.row[index];
    }

    public double meanChalk() throws ArithmeticException {
        int owned = SQUARES - yard.countOwned(NOBODY);
        if (owned == 0) {
            throw new ArithmeticException();
        }
        return (double) yard.sumAllChalk() / (double) owned;
    }

    public float ownedShare() {
        return (float) (SQUARES - yard.countOwned(NOBODY)) / (float) SQUARES;
    }

    public int account(int what) throws IllegalArgumentException {
        switch (what) {
            case 0: return yard.children;
            case 1: return yard.sumPebbles();
            case 2: return yard.chest;
            case 3: return SQUARES - yard.countOwned(NOBODY);
            case 4: return yard.standing;
            case 5: return yard.allTreads;
            case 6: return yard.written;
            case 7: return yard.washed;
            case 8: return yard.repossessed;
            case 9: return yard.terms;
            case 10: return past.count;
            case 11: return text.length;
            default: throw new IllegalArgumentException();
        }
    }

    public int undo() throws IllegalStateException {
        if (past.count == 0) {
            throw new IllegalStateException();
        }
        past.giveBack(yard);
        return past.count;
    }

    public int save() {
        snapshot.copyFrom(yard);
        isSaved = true;
        return yard.children;
    }

    public int restore() throws IllegalStateException {
        if (!isSaved) {
            throw new IllegalStateException();
        }
        yard.copyFrom(snapshot);
        past.count = 0;
        return yard.children;
    }

    private void checkChild(int child) {
        if (!yard.hasChild(child)) {
            throw new IndexOutOfBoundsException();
        }
    }

    private int change() {
        if (reasons.refuse(yard, command)) {
            throw new UnsupportedOperationException();
        }
        past.keep(yard);
        return yard.carryOut(command);
    }

    /** Returns how many commands were carried out, or 0 if one was refused: the yard is left amid them then. */
    private int carryOutText() {
        reader.place = 0;
        int count = 0;
        while (count < MOST_SIGNS && reader.takeCommand(text, command)) {
            if (reasons.refuse(yard, command)) {
                reasons.command = count;
                return 0;
            }
            yard.carryOut(command);
            reader.takeSign(text, ';');
            count++;
        }
        return count;
    }

    private void putBlankBetween() {
        if (written.length > 0) {
            written.put(' ');
        }
    }

    private void putPair(int child, char between, int chalk) {
        written.put((char) ('0' + child));
        written.put(between);
        written.put((char) ('0' + chalk));
    }

    /** A row of characters: the text buffer, or the line. */
    private static final class Signs {
        private final char[] row = new char[MOST_SIGNS];
        private int length;

        void put(char sign) {
            if (length < row.length) {
                row[length] = sign;
                length++;
            }
        }
    }

    /** The steps of a hop; none at all stand for a number that is out of range. */
    private static final class Steps {
        private final int[] row = new int[MOST_STEPS];
        private int count;

        void add(int step) {
            if (count < row.length) {
                row[count] = step;
                count++;
            }
        }

        void readFrom(int number) {
            int rest = number;
            int first = MOST_DIGITS;
            for (int place = MOST_DIGITS - 1; place >= 0 && rest > 0; place--) {
                row[place] = rest % 10;
                rest /= 10;
                first = place;
            }
            // What is left is a number with too many digits, or one below 0.
            count = rest == 0 ? MOST_DIGITS - first : 0;
            System.arraycopy(row, first, row, 0, count);
            for (int place = 0; place < count; place++) {
                if (row[place] < 1 || row[place] > GREATEST_STEP) {
                    count = 0;
                }
            }
        }

        /** Returns the square on which they end if it is ahead of the last one, or 12 if they go on behind it. */
        int misfit() {
            int square = -1;
            for (int place = 0; place < count; place++) {
                if (square >= SQUARES - 1) {
                    return SQUARES;
                }
                square += row[place];
            }
            return square >= SQUARES - 1 ? STEPS_FIT : square;
        }
    }

    /** A change of the yard; its kind is the letter that begins it in a text. */
    private static final class Command {
        private final Steps steps = new Steps();
        private int kind;
        private int child;
        private int other;
        private int number;

        void set(int newKind, int newChild, int newOther, int newNumber) {
            kind = newKind;
            child = newChild;
            other = newOther;
            number = newNumber;
        }
    }

    /** Reads a text command by command; its place stays at the first character that does not fit. */
    private static final class Reader {
        private int place;

        int findFault(Signs text, Command command) {
            place = 0;
            for (int count = 0; count < MOST_SIGNS; count++) {
                if (!takeCommand(text, command)) {
                    return place;
                }
                if (place == text.length) {
                    return NO_FAULT;
                }
                if (!takeSign(text, ';')) {
                    return place;
                }
            }
            return place;
        }

        boolean takeCommand(Signs text, Command command) {
            int kind = signAt(text);
            if (!isKind(kind)) {
                return false;
            }
            place++;
            command.set(kind, 0, 0, 0);
            switch (kind) {
                case 'n': return takeNumber(text, command);
                case 'c': return takeChild(text, command) && takeSign(text, '@') && takeNumber(text, command);
                case 'h': return takeChild(text, command) && takeSign(text, ':') && takeSteps(text, command.steps);
                case 'r': return takeDigit(text, command);
                case 't': return true;
                case 'g': return takeChild(text, command) && takeSign(text, '>') && takeOther(text, command)
                        && takeSign(text, '*') && takeNumber(text, command);
                default: return takeChild(text, command);
            }
        }

        boolean takeSign(Signs text, char sign) {
            if (signAt(text) != sign) {
                return false;
            }
            place++;
            return true;
        }

        private boolean isKind(int sign) {
            switch (sign) {
                case 'n':
                case 'c':
                case 'h':
                case 'w':
                case 's':
                case 'r':
                case 't':
                case 'g':
                    return true;
                default:
                    return false;
            }
        }

        private boolean takeChild(Signs text, Command command) {
            command.child = digitAt(text);
            return passDigit(text);
        }

        private boolean takeOther(Signs text, Command command) {
            command.other = digitAt(text);
            return passDigit(text);
        }

        private boolean takeDigit(Signs text, Command command) {
            command.number = digitAt(text);
            return passDigit(text);
        }

        private boolean takeNumber(Signs text, Command command) {
            if (!takeDigit(text, command)) {
                return false;
            }
            int second = digitAt(text);
            if (passDigit(text)) {
                command.number = command.number * 10 + second;
            }
            return true;
        }

        private boolean takeSteps(Signs text, Steps steps) {
            steps.count = 0;
            for (int taken = 0; taken < MOST_STEPS; taken++) {
                int digit = digitAt(text);
                if (digit < 1 || digit > GREATEST_STEP) {
                    break;
                }
                steps.add(digit);
                place++;
            }
            return steps.count > 0;
        }

        private boolean passDigit(Signs text) {
            if (digitAt(text) < 0) {
                return false;
            }
            place++;
            return true;
        }

        private int digitAt(Signs text) {
            int sign = signAt(text);
            return sign >= '0' && sign <= '9' ? sign - '0' : -1;
        }

        private int signAt(Signs text) {
            return place >= 0 && place < text.length && place < text.row.length ? text.row[place] : -1;
        }
    }

    /** Tells whether a command is refused, and keeps the latest reason for it; the number 0 stands for none so far. */
    private static final class Reasons {
        private int number;
        private int detail;
        private int command;

        boolean refuse(Yard yard, Command asked) {
            switch (asked.kind) {
                case 'n': return refuseChild(yard, asked.number);
                case 'c': return refuseChalk(yard, asked.child, asked.number);
                case 'h': return refuseHop(yard, asked.child, asked.steps);
                case 'w': return refuseWarrant(yard, asked.child);
                case 's': return refuseStrike(yard, asked.child);
                case 'r': return refuseRain(yard, asked.number);
                case 't': return refuseTerm(yard);
                default: return refuseGift(yard, asked.child, asked.other, asked.number);
            }
        }

        private boolean refuseChild(Yard yard, int pebbles) {
            return lacksRange(pebbles, 0, MOST_PEBBLES)
                    || yard.children >= CHILDREN && keep(2, yard.children);
        }

        private boolean refuseChalk(Yard yard, int child, int square) {
            if (lacksChild(yard, child) || lacksRange(square, 0, SQUARES - 1)) {
                return true;
            }
            int owner = yard.owners[square];
            if (owner != NOBODY && owner != child) {
                return keep(4, owner);
            }
            if (yard.chalks[square] >= MOST_CHALK) {
                return keep(6, square);
            }
            return lacksPebbles(yard, child, 1);
        }

        private boolean refuseHop(Yard yard, int child, Steps steps) {
            if (lacksChild(yard, child) || isWanted(yard, child)) {
                return true;
            }
            if (steps.count == 0) {
                return keep(1, 0);
            }
            int misfit = steps.misfit();
            return misfit != STEPS_FIT && keep(8, misfit);
        }

        private boolean refuseWarrant(Yard yard, int child) {
            return lacksChild(yard, child) || isWanted(yard, child)
                    || yard.treads[child] < TREADS_FOR_A_WARRANT && keep(9, yard.treads[child]);
        }

        private boolean refuseStrike(Yard yard, int child) {
            return lacksChild(yard, child)
                    || yard.warrantChalks[child] == 0 && keep(10, 0)
                    || lacksPebbles(yard, child, yard.warrantChalks[child]);
        }

        private boolean refuseRain(Yard yard, int rain) {
            return lacksRange(rain, 1, MOST_CHALK)
                    || yard.standing == 0 && yard.countOwned(NOBODY) == SQUARES && keep(12, 0);
        }

        private boolean refuseTerm(Yard yard) {
            return yard.children == 0 && keep(13, 0);
        }

        private boolean refuseGift(Yard yard, int child, int other, int pebbles) {
            return lacksChild(yard, child) || lacksChild(yard, other)
                    || child == other && keep(11, child)
                    || lacksRange(pebbles, 1, MOST_PEBBLES)
                    || lacksPebbles(yard, child, pebbles);
        }

        private boolean lacksRange(int value, int least, int most) {
            return (value < least || value > most) && keep(1, 0);
        }

        private boolean lacksChild(Yard yard, int child) {
            return !yard.hasChild(child) && keep(3, yard.children);
        }

        private boolean isWanted(Yard yard, int child) {
            return yard.warrantChalks[child] > 0 && keep(7, yard.warrantChalks[child]);
        }

        private boolean lacksPebbles(Yard yard, int child, int price) {
            return yard.pebbles[child] < price && keep(5, price - yard.pebbles[child]);
        }

        /** Always true, so that a check can end with it. */
        private boolean keep(int newNumber, int newDetail) {
            number = newNumber;
            detail = newDetail;
            command = 0;
            return true;
        }
    }

    /** What there was before the latest changes, in a ring. */
    private static final class Past {
        private final Yard[] ring = new Yard[MOST_UNDONE];
        private int newest;
        private int count;

        Past() {
            for (int place = 0; place < ring.length; place++) {
                ring[place] = new Yard();
            }
        }

        void keep(Yard yard) {
            newest = newest + 1 < ring.length ? newest + 1 : 0;
            count = count < ring.length ? count + 1 : count;
            ring[newest].copyFrom(yard);
        }

        void giveBack(Yard yard) {
            yard.copyFrom(ring[newest]);
            newest = newest > 0 ? newest - 1 : ring.length - 1;
            count--;
        }
    }

    /** All that can be undone; its changes are told only what was not refused. */
    private static final class Yard {
        private final int[] owners = new int[SQUARES];
        private final int[] chalks = new int[SQUARES];
        private final int[] pebbles = new int[CHILDREN];
        private final int[] treads = new int[CHILDREN];
        private final int[] warrantChalks = new int[CHILDREN];
        private final int[] hops = new int[CHILDREN];
        private final int[] trodden = new int[CHILDREN];
        private final int[] order = new int[CHILDREN];
        private int children;
        private int standing;
        private int chest;
        private int brought;
        private int allTreads;
        private int written;
        private int washed;
        private int repossessed;
        private int terms;

        Yard() {
            for (int square = 0; square < SQUARES; square++) {
                owners[square] = NOBODY;
            }
        }

        void copyFrom(Yard yard) {
            System.arraycopy(yard.owners, 0, owners, 0, SQUARES);
            System.arraycopy(yard.chalks, 0, chalks, 0, SQUARES);
            System.arraycopy(yard.pebbles, 0, pebbles, 0, CHILDREN);
            System.arraycopy(yard.treads, 0, treads, 0, CHILDREN);
            System.arraycopy(yard.warrantChalks, 0, warrantChalks, 0, CHILDREN);
            System.arraycopy(yard.hops, 0, hops, 0, CHILDREN);
            System.arraycopy(yard.trodden, 0, trodden, 0, CHILDREN);
            System.arraycopy(yard.order, 0, order, 0, CHILDREN);
            children = yard.children;
            standing = yard.standing;
            chest = yard.chest;
            brought = yard.brought;
            allTreads = yard.allTreads;
            written = yard.written;
            washed = yard.washed;
            repossessed = yard.repossessed;
            terms = yard.terms;
        }

        int carryOut(Command command) {
            switch (command.kind) {
                case 'n': return bring(command.number);
                case 'c': return chalkOn(command.child, command.number);
                case 'h': return hopBy(command.child, command.steps);
                case 'w': return writeAgainst(command.child);
                case 's': return strikeOut(command.child);
                case 'r': return wash(command.number);
                case 't': return endTerm();
                default: return handOver(command.child, command.other, command.number);
            }
        }

        private int bring(int newPebbles) {
            pebbles[children] = newPebbles;
            brought += newPebbles;
            children++;
            return children - 1;
        }

        private int chalkOn(int child, int square) {
            pebbles[child]--;
            chest++;
            chalks[square] = owners[square] == NOBODY ? 5 : Math.min(chalks[square] + 2, MOST_CHALK);
            owners[square] = child;
            return chalks[square];
        }

        private int hopBy(int child, Steps steps) {
            int count = countTreads(child, steps);
            int square = -1;
            for (int place = 0; place < steps.count; place++) {
                square += steps.row[place];
                if (isLineFor(child, square)) {
                    trodden[owners[square]]++;
                    takeChalk(square, 1);
                }
            }
            treads[child] += count;
            allTreads += count;
            hops[child]++;
            return count;
        }

        private int writeAgainst(int child) {
            warrantChalks[child] = Math.min(treads[child], MOST_CHALK);
            treads[child] = 0;
            order[standing] = child;
            standing++;
            written++;
            return warrantChalks[child];
        }

        private int strikeOut(int child) {
            pebbles[child] -= warrantChalks[child];
            chest += warrantChalks[child];
            warrantChalks[child] = 0;
            closeOrder();
            return pebbles[child];
        }

        int wash(int rain) {
            int ended = 0;
            for (int square = 0; square < SQUARES; square++) {
                if (owners[square] != NOBODY && takeChalk(square, rain)) {
                    ended++;
                }
            }
            for (int place = 0; place < standing; place++) {
                int child = order[place];
                warrantChalks[child] = Math.max(warrantChalks[child] - rain, 0);
            }
            int ofWarrants = closeOrder();
            washed += ofWarrants;
            return ended + ofWarrants;
        }

        int endTerm() {
            int lost = 0;
            for (int child = 0; child < children; child++) {
                lost += payRents(child);
            }
            for (int child = 0; child < children && chest > 0; child++) {
                chest--;
                pebbles[child]++;
            }
            repossessed += lost;
            terms++;
            return lost;
        }

        private int payRents(int child) {
            int lost = 0;
            for (int square = 0; square < SQUARES; square++) {
                if (owners[square] != child) {
                    continue;
                }
                if (pebbles[child] > 0) {
                    pebbles[child]--;
                    chest++;
                } else {
                    takeChalk(square, MOST_CHALK);
                    lost++;
                }
            }
            return lost;
        }

        private int handOver(int child, int other, int given) {
            pebbles[child] -= given;
            pebbles[other] += given;
            return pebbles[child];
        }

        /** Returns whether the square got free. */
        private boolean takeChalk(int square, int chalk) {
            chalks[square] = Math.max(chalks[square] - chalk, 0);
            if (chalks[square] == 0) {
                owners[square] = NOBODY;
            }
            return chalks[square] == 0;
        }

        /** Takes the warrants without chalk out of the order, and returns how many they were. */
        private int closeOrder() {
            int left = 0;
            for (int place = 0; place < standing; place++) {
                int child = order[place];
                if (warrantChalks[child] > 0) {
                    order[left] = child;
                    left++;
                }
            }
            int gone = standing - left;
            standing = left;
            return gone;
        }

        boolean hasChild(int child) {
            return child >= 0 && child < children;
        }

        /** Whether the child treads on a line there; the square may lie behind the yard. */
        boolean isLineFor(int child, int square) {
            return square >= 0 && square < SQUARES && owners[square] != NOBODY && owners[square] != child;
        }

        int countTreads(int child, Steps steps) {
            int count = 0;
            int square = -1;
            for (int place = 0; place < steps.count; place++) {
                square += steps.row[place];
                if (isLineFor(child, square)) {
                    count++;
                }
            }
            return count;
        }

        int countOwned(int owner) {
            int count = 0;
            for (int square = 0; square < SQUARES; square++) {
                if (owners[square] == owner) {
                    count++;
                }
            }
            return count;
        }

        /** Returns the set of the child's squares without so many of the lowest ones. */
        int ownedFrom(int child, int left) {
            int set = 0;
            int passed = 0;
            for (int square = 0; square < SQUARES; square++) {
                if (owners[square] == child) {
                    set |= passed >= left ? 1 << square : 0;
                    passed++;
                }
            }
            return set;
        }

        int sumChalk(int owner) {
            int sum = 0;
            for (int square = 0; square < SQUARES; square++) {
                sum += owners[square] == owner ? chalks[square] : 0;
            }
            return sum;
        }

        int sumAllChalk() {
            int sum = 0;
            for (int square = 0; square < SQUARES; square++) {
                sum += chalks[square];
            }
            return sum;
        }

        int sumPebbles() {
            int sum = 0;
            for (int child = 0; child < children; child++) {
                sum += pebbles[child];
            }
            return sum;
        }

        int longestRun(int owner) {
            int longest = 0;
            int run = 0;
            for (int square = 0; square < SQUARES; square++) {
                run = owners[square] == owner ? run + 1 : 0;
                longest = Math.max(longest, run);
            }
            return longest;
        }

        boolean isChalkedJustIfOwned() {
            for (int square = 0; square < SQUARES; square++) {
                if (chalks[square] > 0 != (owners[square] != NOBODY)) {
                    return false;
                }
            }
            return true;
        }

        /** Returns how many children stand ahead of the child in the order by the measure. */
        int countAhead(int child, int measure) {
            int own = measureOf(child, measure);
            int count = 0;
            for (int other = 0; other < children; other++) {
                int value = measureOf(other, measure);
                if (value > own || value == own && other < child) {
                    count++;
                }
            }
            return count;
        }

        private int measureOf(int child, int measure) {
            switch (measure) {
                case 0: return pebbles[child];
                case 1: return countOwned(child);
                case 2: return treads[child];
                default: return warrantChalks[child];
            }
        }
    }

    /**
     * The hops that a child could make, told by stops: the stop 0 is ahead of the square 0, the stop k is the square
     * k - 1, and those from 12 on end a hop.
     */
    private static final class Ways {
        private static final int END = SQUARES;
        private static final int STOPS = END + GREATEST_STEP;

        private final int[] treads = new int[STOPS];
        private final int[] counts = new int[STOPS];
        private final int[] steps = new int[STOPS];

        /** Fills, from the end back, what the best way on from each stop treads on, its count of steps and the first. */
        int fewestBack(Yard yard, int child) {
            for (int stop = END; stop < STOPS; stop++) {
                treads[stop] = 0;
                counts[stop] = 0;
            }
            for (int stop = END - 1; stop >= 0; stop--) {
                steps[stop] = 0;
                // From the greatest step down, so that of equal ways the one with the greatest step stays.
                for (int step = GREATEST_STEP; step >= 1; step--) {
                    tryStep(yard, child, stop, step);
                }
            }
            return treads[0];
        }

        private void tryStep(Yard yard, int child, int stop, int step) {
            int next = stop + step;
            int trodden = treads[next] + lineAt(yard, child, next);
            int count = counts[next] + 1;
            if (steps[stop] == 0 || trodden < treads[stop] || trodden == treads[stop] && count < counts[stop]) {
                treads[stop] = trodden;
                counts[stop] = count;
                steps[stop] = step;
            }
        }

        void tellBest(Steps best) {
            best.count = 0;
            int stop = 0;
            for (int taken = 0; taken < MOST_STEPS && stop < END; taken++) {
                best.add(steps[stop]);
                stop += steps[stop];
            }
        }

        /** Fills, from the beginning on, on how few lines each stop can be reached. */
        int fewestOn(Yard yard, int child) {
            treads[0] = 0;
            int fewest = SQUARES;
            for (int stop = 1; stop < STOPS; stop++) {
                int least = SQUARES;
                for (int from = Math.max(stop - GREATEST_STEP, 0); from < stop && from < END; from++) {
                    least = Math.min(least, treads[from]);
                }
                treads[stop] = least + lineAt(yard, child, stop);
                fewest = stop >= END ? Math.min(fewest, treads[stop]) : fewest;
            }
            return fewest;
        }

        private int lineAt(Yard yard, int child, int stop) {
            return yard.isLineFor(child, stop - 1) ? 1 : 0;
        }
    }
}
