/** The copy of a newsroom on its way to the plates of a night. */
public final class CopyPlates {
    public static final int NO_SUCH = -1, BAD_VALUE = -2, BAD_TEXT = -3, TOO_MANY = -4, NOT_POSSIBLE = -5, NONE = -6;
    public static final int EDIT = 0, LEGAL = 1, ROOM = 2, DELAY = 3;

    private static final int SETTINGS = 4;
    private static final int[] LEAST_VALUES = {1, 1, 10, 1};
    private static final int[] GREATEST_VALUES = {20, 60, 400, 60};
    private static final int[] FIRST_VALUES = {4, 10, 60, 5};

    private static final int MINUTES = 600;
    private static final int MOST_AHEAD = 2000;
    private static final int DESKS = 5;
    private static final int MOST_PIECES = 24;
    private static final int MOST_LINES = 99;
    private static final int GREATEST_RANK = 9;
    private static final int MOST_PLATES = 8;
    private static final int MOST_CHANGES = 6;
    private static final int SLOTS = 2;

    private static final int AT_DESK = 0, AT_LAWYER = 1, READY = 2, KILLED = 3;

    private static final int WOULD_BE_ON = 0, IS_KILLED = 1, IS_HELD = 2, IS_AT_DESK = 3, IS_AT_LAWYER = 4, NO_ROOM = 5;

    private static final int MOST_CHARACTERS = 80;
    private static final int CHARACTERS_AT_ONCE = 8;
    private static final int LEAST_CODE = 33, GREATEST_CODE = 126;
    private static final int MOST_DIGITS = 3;

    private final Night night;
    /** A second night, in which time passes for the calls that ask what will be. */
    private final Night ahead;
    private final History history;
    /** Null where nothing was saved. */
    private final Night[] slots;
    private final Pad pad;
    private final OrderReader reader;

    public CopyPlates() {
        night = new Night();
        ahead = new Night();
        history = new History();
        slots = new Night[SLOTS];
        pad = new Pad();
        reader = new OrderReader(pad);
    }

    // ---- changes

    public int set(int setting, int value) {
        history.prepare(night);
        return history.recordUnlessError(night.changeSetting(setting, value));
    }

    public int piece(int desk, int lines, int rank, int legal) {
        history.prepare(night);
        return history.recordUnlessError(night.addPiece(desk, lines, rank, legal));
    }

    public int plate(int minute) {
        history.prepare(night);
        return history.recordUnlessError(night.addPlate(minute));
    }

    public int hold(int piece) {
        history.prepare(night);
        return history.recordUnlessError(night.turnHold(piece));
    }

    public int kill(int piece) {
        history.prepare(night);
        return history.recordUnlessError(night.killPiece(piece));
    }

    public int pass(int minutes) {
        history.prepare(night);
        return history.recordUnlessError(night.passMinutes(minutes));
    }

    // ---- what there is

    public int ofPiece(int piece, int what) {
        return night.factOfPiece(piece, what);
    }

    public int ofPlate(int plate, int what) {
        return night.factOfPlate(plate, what);
    }

    public int count(int what) {
        if (what == 14) {
            return pad.length;
        }
        if (what == 15) {
            return history.changes;
        }
        return night.factOfNight(what);
    }

    // ---- what if; nothing changes

    public int why(int piece, int what) {
        return night.whyNotOnPlate(piece, what);
    }

    public int plateNow() {
        return night.takenNow();
    }

    public int readyIn(int piece) {
        if (!night.hasPiece(piece)) {
            return NO_SUCH;
        }
        if (night.isPiece(piece, KILLED)) {
            return NOT_POSSIBLE;
        }
        ahead.copyFrom(night);
        for (int minutes = 0; minutes <= MOST_AHEAD; minutes++) {
            if (ahead.isPiece(piece, READY)) {
                return minutes;
            }
            ahead.passMinute();
        }
        return NONE;
    }

    public int leastRoom() {
        int due = night.nextDue();
        if (due < 0) {
            return NOT_POSSIBLE;
        }
        goAheadToPlate(due);
        // All of them fit exactly if their lines together do, whatever their order is.
        int lines = ahead.linesOf(ahead.piecesForPlate());
        if (lines > GREATEST_VALUES[ROOM]) {
            return NONE;
        }
        return Math.max(lines, LEAST_VALUES[ROOM]);
    }

    public int nextPlate() {
        int due = night.nextDue();
        if (due < 0) {
            return NOT_POSSIBLE;
        }
        goAheadToPlate(due);
        return ahead.factOfPlate(due, 3);
    }

    /** Making a plate moves no piece: behind its minute, the pieces are as the plate found them. */
    private void goAheadToPlate(int plate) {
        ahead.copyFrom(night);
        ahead.passMinutes(night.minutesToPlate(plate));
    }

    // ---- texts

    public int put(long characters) {
        return pad.append(characters);
    }

    public int wipe() {
        return pad.empty();
    }

    public int fault() {
        return reader.findFault();
    }

    public int carryOut() {
        if (reader.findFault() != NONE) {
            return BAD_TEXT;
        }
        history.prepare(night);
        reader.goToStart();
        int carried = 0;
        for (int orders = 0; orders < MOST_CHARACTERS; orders++) {
            if (!reader.readOrder() || carryOrderOut() < 0) {
                break;
            }
            carried++;
            if (!reader.readSign(';')) {
                break;
            }
        }
        pad.empty();
        return history.recordUnlessError(carried);
    }

    /** Calls what records no change: the orders of a text are one change together. */
    private int carryOrderOut() {
        if (reader.kind == '+') {
            return night.addPiece(reader.desk, reader.number, reader.rank, reader.legal);
        }
        if (reader.kind == 'p') {
            return night.addPlate(reader.number);
        }
        if (reader.kind == 'h') {
            return night.turnHold(reader.number);
        }
        if (reader.kind == 'k') {
            return night.killPiece(reader.number);
        }
        return night.passMinutes(reader.number);
    }

    // ---- undo, saving

    public int undo() {
        if (history.changes == 0) {
            return NOT_POSSIBLE;
        }
        history.takeBack(night);
        return history.changes;
    }

    public int save(int slot) {
        if (slot < 0 || slot >= SLOTS) {
            return BAD_VALUE;
        }
        Night saved = slots[slot];
        if (saved == null) {
            saved = new Night();
            slots[slot] = saved;
        }
        saved.copyFrom(night);
        return night.pieceCount;
    }

    public int restore(int slot) {
        if (slot < 0 || slot >= SLOTS) {
            return BAD_VALUE;
        }
        Night saved = slots[slot];
        if (saved == null) {
            return NOT_POSSIBLE;
        }
        history.prepare(night);
        night.copyFrom(saved);
        return history.recordUnlessError(night.pieceCount);
    }

    private static boolean isInSet(int number, int set) {
        return (set >> number & 1) == 1;
    }

    private static int oneIf(boolean condition) {
        return condition ? 1 : 0;
    }

    /** One piece of copy. The objects are used again for other pieces, so come() sets every field. */
    private static final class Piece {
        int desk;
        int lines;
        int rank;
        boolean legal;
        int state;
        boolean held;
        int edited;
        int read;
        int readyMinute;
        /** Tells the order of the lawyer's queue; no two pieces there have the same. */
        int lawyerTurn;

        void come(int itsDesk, int itsLines, int itsRank, boolean isLegal) {
            desk = itsDesk;
            lines = itsLines;
            rank = itsRank;
            legal = isLegal;
            state = AT_DESK;
            held = false;
            edited = 0;
            read = 0;
            readyMinute = NONE;
            lawyerTurn = 0;
        }

        void copyFrom(Piece other) {
            desk = other.desk;
            lines = other.lines;
            rank = other.rank;
            legal = other.legal;
            state = other.state;
            held = other.held;
            edited = other.edited;
            read = other.read;
            readyMinute = other.readyMinute;
            lawyerTurn = other.lawyerTurn;
        }

        void editFor(int mostLines, int minute) {
            edited += Math.min(mostLines, lines - edited);
            if (edited < lines) {
                return;
            }
            if (!legal) {
                becomeReady(minute);
                return;
            }
            state = AT_LAWYER;
            // A desk is done with one piece a minute at most, and the desks take turns by their numbers.
            lawyerTurn = minute * DESKS + desk;
        }

        void readOneMinute(int minutesNeeded, int minute) {
            read++;
            if (read >= minutesNeeded) {
                becomeReady(minute);
            }
        }

        private void becomeReady(int minute) {
            state = READY;
            readyMinute = minute;
        }

        boolean isForPlate() {
            return state == READY && !held;
        }
    }

    /** A plate that was told; its pieces are the empty set until it is made. */
    private static final class Plate {
        int minute;
        boolean replate;
        int pieces;

        void tell(int itsMinute, boolean isReplate) {
            minute = itsMinute;
            replate = isReplate;
            pieces = 0;
        }

        void copyFrom(Plate other) {
            minute = other.minute;
            replate = other.replate;
            pieces = other.pieces;
        }
    }

    /** All that undo takes back, and that a slot saves. Its rows are made once; only the first ones are in use. */
    private static final class Night {
        private final int[] settings;
        private int minute;
        private final Piece[] pieces;
        int pieceCount;
        private final Plate[] plates;
        private int plateCount;

        Night() {
            settings = FIRST_VALUES.clone();
            minute = 0;
            pieces = new Piece[MOST_PIECES];
            for (int i = 0; i < MOST_PIECES; i++) {
                pieces[i] = new Piece();
            }
            pieceCount = 0;
            plates = new Plate[MOST_PLATES];
            for (int i = 0; i < MOST_PLATES; i++) {
                plates[i] = new Plate();
            }
            plateCount = 0;
        }

        void copyFrom(Night other) {
            System.arraycopy(other.settings, 0, settings, 0, SETTINGS);
            minute = other.minute;
            pieceCount = other.pieceCount;
            for (int i = 0; i < pieceCount; i++) {
                pieces[i].copyFrom(other.pieces[i]);
            }
            plateCount = other.plateCount;
            for (int i = 0; i < plateCount; i++) {
                plates[i].copyFrom(other.plates[i]);
            }
        }

        boolean hasPiece(int piece) {
            return piece >= 0 && piece < pieceCount;
        }

        boolean isPiece(int piece, int state) {
            return hasPiece(piece) && pieces[piece].state == state;
        }

        // -- changes: each answers an error and changes nothing, or answers 0 or more

        int changeSetting(int setting, int value) {
            if (setting < 0 || setting >= SETTINGS) {
                return BAD_VALUE;
            }
            if (value < LEAST_VALUES[setting] || value > GREATEST_VALUES[setting]) {
                return BAD_VALUE;
            }
            int previous = settings[setting];
            settings[setting] = value;
            return previous;
        }

        int addPiece(int desk, int lines, int rank, int legal) {
            if (desk < 0 || desk >= DESKS) {
                return NO_SUCH;
            }
            if (lines < 1 || lines > MOST_LINES || rank < 0 || rank > GREATEST_RANK || legal < 0 || legal > 1) {
                return BAD_VALUE;
            }
            if (pieceCount >= MOST_PIECES) {
                return TOO_MANY;
            }
            int number = pieceCount;
            pieces[number].come(desk, lines, rank, legal == 1);
            pieceCount++;
            return number;
        }

        int addPlate(int itsMinute) {
            if (itsMinute < minute || itsMinute >= MINUTES) {
                return BAD_VALUE;
            }
            if (plateCount >= MOST_PLATES) {
                return TOO_MANY;
            }
            if (plateAt(itsMinute) >= 0) {
                return NOT_POSSIBLE;
            }
            return insertPlate(itsMinute, false);
        }

        int turnHold(int piece) {
            if (!hasPiece(piece)) {
                return NO_SUCH;
            }
            Piece held = pieces[piece];
            if (held.state == KILLED) {
                return NOT_POSSIBLE;
            }
            held.held = !held.held;
            return oneIf(held.held);
        }

        int killPiece(int piece) {
            if (!hasPiece(piece)) {
                return NO_SUCH;
            }
            Piece killed = pieces[piece];
            if (killed.state == KILLED) {
                return NOT_POSSIBLE;
            }
            killed.state = KILLED;
            return oneIf(isOnLatestMade(piece) && tellReplate());
        }

        int passMinutes(int minutes) {
            if (minutes < 1) {
                return BAD_VALUE;
            }
            if (minutes > MINUTES - minute) {
                return NOT_POSSIBLE;
            }
            int made = 0;
            for (int i = 0; i < minutes; i++) {
                made += oneIf(passMinute());
            }
            return made;
        }

        // -- a minute

        /** Answers whether a plate was made. */
        boolean passMinute() {
            editAtDesks();
            readAtLawyer();
            int due = plateAt(minute);
            if (due >= 0) {
                plates[due].pieces = takenNow();
            }
            minute++;
            return due >= 0;
        }

        /**
         * The pieces of a desk come in the order of their numbers, so the first one that is still there
         * is the first of its queue. In which order the desks work shows in the lawyer's turns alone.
         */
        private void editAtDesks() {
            int busyDesks = 0;
            for (int i = 0; i < pieceCount; i++) {
                Piece piece = pieces[i];
                if (piece.state == AT_DESK && !isInSet(piece.desk, busyDesks)) {
                    busyDesks |= 1 << piece.desk;
                    piece.editFor(settings[EDIT], minute);
                }
            }
        }

        private void readAtLawyer() {
            int first = firstAtLawyer();
            if (first >= 0) {
                pieces[first].readOneMinute(settings[LEGAL], minute);
            }
        }

        // -- queues

        /** NONE if no piece is there. */
        private int firstAtDesk(int desk) {
            for (int i = 0; i < pieceCount; i++) {
                if (pieces[i].state == AT_DESK && pieces[i].desk == desk) {
                    return i;
                }
            }
            return NONE;
        }

        /** NONE if no piece is there. */
        private int firstAtLawyer() {
            int first = NONE;
            for (int i = 0; i < pieceCount; i++) {
                if (pieces[i].state == AT_LAWYER && (first < 0 || pieces[i].lawyerTurn < pieces[first].lawyerTurn)) {
                    first = i;
                }
            }
            return first;
        }

        private int placeInQueue(int piece) {
            if (pieces[piece].state == AT_DESK) {
                return placeAtDesk(piece);
            }
            return pieces[piece].state == AT_LAWYER ? placeAtLawyer(piece) : NONE;
        }

        private int placeAtDesk(int piece) {
            int place = 0;
            for (int i = 0; i < piece; i++) {
                place += oneIf(pieces[i].state == AT_DESK && pieces[i].desk == pieces[piece].desk);
            }
            return place;
        }

        private int placeAtLawyer(int piece) {
            int place = 0;
            for (int i = 0; i < pieceCount; i++) {
                place += oneIf(pieces[i].state == AT_LAWYER && pieces[i].lawyerTurn < pieces[piece].lawyerTurn);
            }
            return place;
        }

        // -- filling a plate

        /** The pieces that are ready and not held. */
        int piecesForPlate() {
            int set = 0;
            for (int i = 0; i < pieceCount; i++) {
                set |= oneIf(pieces[i].isForPlate()) << i;
            }
            return set;
        }

        int linesOf(int set) {
            int lines = 0;
            for (int i = 0; i < pieceCount; i++) {
                if (isInSet(i, set)) {
                    lines += pieces[i].lines;
                }
            }
            return lines;
        }

        /** The pieces that a plate takes if it is made of the pieces as they are. */
        int takenNow() {
            int waiting = piecesForPlate();
            int taken = 0;
            int lines = 0;
            for (int turn = 0; turn < pieceCount; turn++) {
                int next = firstByRank(waiting);
                if (next < 0) {
                    return taken;
                }
                waiting &= ~(1 << next);
                if (lines + pieces[next].lines <= settings[ROOM]) {
                    lines += pieces[next].lines;
                    taken |= 1 << next;
                }
            }
            return taken;
        }

        /** NONE if the set is empty. */
        private int firstByRank(int set) {
            int first = NONE;
            for (int i = 0; i < pieceCount; i++) {
                if (isInSet(i, set) && (first < 0 || goesAhead(i, first))) {
                    first = i;
                }
            }
            return first;
        }

        /** NONE if no piece is taken ahead of it. */
        private int lastTakenAheadOf(int piece) {
            int taken = takenNow();
            int last = NONE;
            for (int i = 0; i < pieceCount; i++) {
                if (isInSet(i, taken) && goesAhead(i, piece) && (last < 0 || goesAhead(last, i))) {
                    last = i;
                }
            }
            return last;
        }

        /** Whether one of two ready pieces is gone through ahead of the other. */
        private boolean goesAhead(int one, int other) {
            Piece a = pieces[one];
            Piece b = pieces[other];
            if (a.rank != b.rank) {
                return a.rank > b.rank;
            }
            if (a.readyMinute != b.readyMinute) {
                return a.readyMinute < b.readyMinute;
            }
            return one < other;
        }

        // -- why a piece would not be on a plate

        int whyNotOnPlate(int piece, int what) {
            if (!hasPiece(piece)) {
                return NO_SUCH;
            }
            if (what == 0) {
                return reasonOf(piece);
            }
            return what == 1 ? causeOf(piece) : BAD_VALUE;
        }

        private int reasonOf(int piece) {
            Piece asked = pieces[piece];
            if (asked.state == KILLED) {
                return IS_KILLED;
            }
            if (asked.held) {
                return IS_HELD;
            }
            if (asked.state == AT_DESK) {
                return IS_AT_DESK;
            }
            if (asked.state == AT_LAWYER) {
                return IS_AT_LAWYER;
            }
            return isInSet(piece, takenNow()) ? WOULD_BE_ON : NO_ROOM;
        }

        private int causeOf(int piece) {
            switch (reasonOf(piece)) {
                case IS_AT_DESK:
                    return firstAtDesk(pieces[piece].desk);
                case IS_AT_LAWYER:
                    return firstAtLawyer();
                case NO_ROOM:
                    return lastTakenAheadOf(piece);
                default:
                    return NONE;
            }
        }

        // -- plates: they lie in the order of their minutes, so the made ones are the first ones

        private boolean isMade(int plate) {
            return plates[plate].minute < minute;
        }

        /** The number of the next plate that is due, NONE if no plate is due. */
        int nextDue() {
            int made = madePlates();
            return made < plateCount ? made : NONE;
        }

        /** How many minutes pass until a plate that is due is made. */
        int minutesToPlate(int plate) {
            return plate >= 0 && plate < plateCount ? plates[plate].minute - minute + 1 : 0;
        }

        private int madePlates() {
            int made = 0;
            for (int i = 0; i < plateCount; i++) {
                made += oneIf(isMade(i));
            }
            return made;
        }

        /** NONE if no plate was told for that minute. */
        private int plateAt(int itsMinute) {
            for (int i = 0; i < plateCount; i++) {
                if (plates[i].minute == itsMinute) {
                    return i;
                }
            }
            return NONE;
        }

        private boolean isOnLatestMade(int piece) {
            int latest = madePlates() - 1;
            return latest >= 0 && isInSet(piece, plates[latest].pieces);
        }

        /** Answers whether a replate was told. */
        private boolean tellReplate() {
            int last = minute + settings[DELAY];
            int due = nextDue();
            if (due >= 0 && plates[due].minute <= last) {
                return false;
            }
            if (plateCount >= MOST_PLATES || last >= MINUTES) {
                return false;
            }
            insertPlate(last, true);
            return true;
        }

        /** Puts a plate at its place among the others and answers its number; there is room for it. */
        private int insertPlate(int itsMinute, boolean isReplate) {
            int number = plateCount;
            while (number > 0 && plates[number - 1].minute > itsMinute) {
                plates[number].copyFrom(plates[number - 1]);
                number--;
            }
            plates[number].tell(itsMinute, isReplate);
            plateCount++;
            return number;
        }

        // -- what there is

        int factOfPiece(int piece, int what) {
            if (!hasPiece(piece)) {
                return NO_SUCH;
            }
            Piece asked = pieces[piece];
            switch (what) {
                case 0:
                    return asked.desk;
                case 1:
                    return asked.lines;
                case 2:
                    return asked.rank;
                case 3:
                    return oneIf(asked.legal);
                case 4:
                    return asked.state;
                case 5:
                    return oneIf(asked.held);
                case 6:
                    return asked.edited;
                case 7:
                    return asked.read;
                case 8:
                    return placeInQueue(piece);
                case 9:
                    return asked.readyMinute;
                case 10:
                    return platesWith(piece);
                default:
                    return BAD_VALUE;
            }
        }

        private int platesWith(int piece) {
            int set = 0;
            for (int i = 0; i < plateCount; i++) {
                set |= oneIf(isInSet(piece, plates[i].pieces)) << i;
            }
            return set;
        }

        int factOfPlate(int plate, int what) {
            if (plate < 0 || plate >= plateCount) {
                return NO_SUCH;
            }
            switch (what) {
                case 0:
                    return plates[plate].minute;
                case 1:
                    return oneIf(isMade(plate));
                case 2:
                    return oneIf(plates[plate].replate);
                case 3:
                    return plates[plate].pieces;
                case 4:
                    return linesOf(plates[plate].pieces);
                default:
                    return BAD_VALUE;
            }
        }

        int factOfNight(int what) {
            switch (what) {
                case 0:
                    return minute;
                case 1:
                    return pieceCount;
                case 2:
                    return plateCount;
                case 3:
                    return madePlates();
                case 4:
                    return piecesThatAre(AT_DESK);
                case 5:
                    return piecesThatAre(AT_LAWYER);
                case 6:
                    return piecesThatAre(READY);
                case 7:
                    return piecesThatAre(KILLED);
                case 8:
                    return heldPieces();
                case 9:
                    return replates();
                case 10:
                    return settings[EDIT];
                case 11:
                    return settings[LEGAL];
                case 12:
                    return settings[ROOM];
                case 13:
                    return settings[DELAY];
                default:
                    return BAD_VALUE;
            }
        }

        private int piecesThatAre(int state) {
            int found = 0;
            for (int i = 0; i < pieceCount; i++) {
                found += oneIf(pieces[i].state == state);
            }
            return found;
        }

        private int heldPieces() {
            int found = 0;
            for (int i = 0; i < pieceCount; i++) {
                found += oneIf(pieces[i].held && pieces[i].state != KILLED);
            }
            return found;
        }

        private int replates() {
            int found = 0;
            for (int i = 0; i < plateCount; i++) {
                found += oneIf(plates[i].replate);
            }
            return found;
        }
    }

    /**
     * The states before the latest changes, in a ring. It has one state more than it keeps, so that a state
     * can be written down ahead of a call that may yet return an error, and the oldest one is still there then.
     */
    private static final class History {
        private final Night[] states;
        private int next;
        int changes;

        History() {
            states = new Night[MOST_CHANGES + 1];
            for (int i = 0; i <= MOST_CHANGES; i++) {
                states[i] = new Night();
            }
            next = 0;
            changes = 0;
        }

        void prepare(Night night) {
            states[next].copyFrom(night);
        }

        /** Records what was prepared if the answer is no error; hands the answer on. */
        int recordUnlessError(int answer) {
            if (answer >= 0) {
                next = next == MOST_CHANGES ? 0 : next + 1;
                changes = Math.min(changes + 1, MOST_CHANGES);
            }
            return answer;
        }

        void takeBack(Night night) {
            if (changes == 0) {
                return;
            }
            next = next == 0 ? MOST_CHANGES : next - 1;
            changes--;
            night.copyFrom(states[next]);
        }
    }

    /** The text of the orders. */
    private static final class Pad {
        private final char[] characters;
        int length;

        Pad() {
            characters = new char[MOST_CHARACTERS];
            length = 0;
        }

        int append(long packed) {
            int more = charactersIn(packed);
            if (more == 0) {
                return BAD_VALUE;
            }
            if (length + more > MOST_CHARACTERS) {
                return TOO_MANY;
            }
            long rest = packed;
            for (int i = length + more - 1; i >= length; i--) {
                characters[i] = (char) (rest & 255);
                rest >>>= 8;
            }
            length += more;
            return length;
        }

        /** 0 if they are not put right. */
        private static int charactersIn(long packed) {
            int found = 0;
            long rest = packed;
            while (rest != 0 && found < CHARACTERS_AT_ONCE) {
                long code = rest & 255;
                if (code < LEAST_CODE || code > GREATEST_CODE) {
                    return 0;
                }
                found++;
                rest >>>= 8;
            }
            return found;
        }

        int empty() {
            int had = length;
            length = 0;
            return had;
        }

        /** The character with the code 0, which no text has, behind the end. */
        char characterAt(int index) {
            return index >= 0 && index < length ? characters[index] : (char) 0;
        }
    }

    /** Reads the pad from left to right, an order at a time, and stops at the character that cannot stand. */
    private static final class OrderReader {
        private final Pad pad;
        private int place;
        char kind;
        int number;
        int desk;
        int rank;
        int legal;

        OrderReader(Pad itsPad) {
            pad = itsPad;
        }

        void goToStart() {
            place = 0;
        }

        /** NONE if there is none. */
        int findFault() {
            goToStart();
            for (int orders = 0; orders < MOST_CHARACTERS; orders++) {
                if (!readOrder()) {
                    return place;
                }
                if (place >= pad.length) {
                    return NONE;
                }
                if (!readSign(';')) {
                    return place;
                }
            }
            return place;
        }

        boolean readOrder() {
            kind = pad.characterAt(place);
            if (kind == '+') {
                place++;
                return readPiece();
            }
            if (kind == 'p' || kind == 'h' || kind == 'k' || kind == 't') {
                place++;
                return readNumber();
            }
            return false;
        }

        private boolean readPiece() {
            desk = digitHere();
            if (desk < 0 || desk >= DESKS) {
                return false;
            }
            place++;
            if (!readSign(':') || !readNumber() || !readSign('!')) {
                return false;
            }
            rank = digitHere();
            if (rank < 0) {
                return false;
            }
            place++;
            legal = oneIf(readSign('L'));
            return true;
        }

        /** A digit behind a 0, or behind the last one that may be, is left: there nothing can take it. */
        private boolean readNumber() {
            number = digitHere();
            if (number < 0) {
                return false;
            }
            place++;
            for (int digits = 1; digits < MOST_DIGITS && number > 0; digits++) {
                int digit = digitHere();
                if (digit < 0) {
                    return true;
                }
                number = number * 10 + digit;
                place++;
            }
            return true;
        }

        boolean readSign(char sign) {
            if (pad.characterAt(place) != sign) {
                return false;
            }
            place++;
            return true;
        }

        /** NONE if no digit stands here. */
        private int digitHere() {
            char here = pad.characterAt(place);
            return here >= '0' && here <= '9' ? here - '0' : NONE;
        }
    }
}
