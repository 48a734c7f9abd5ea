/**
 * Promises 1 to 3 and 5, and the sentences of "Terms" that bind them: the settings, the pieces. Each method is
 * the test of one sentence; the comment quotes it.
 */
public final class SettingsAndPiecesEdgesTest {
    private static final int NO_SUCH = CopyPlates.NO_SUCH;
    private static final int BAD_VALUE = CopyPlates.BAD_VALUE;
    private static final int TOO_MANY = CopyPlates.TOO_MANY;
    private static final int NOT_POSSIBLE = CopyPlates.NOT_POSSIBLE;
    private static final int NONE = CopyPlates.NONE;
    private static final int EDIT = CopyPlates.EDIT;
    private static final int LEGAL = CopyPlates.LEGAL;
    private static final int ROOM = CopyPlates.ROOM;
    private static final int DELAY = CopyPlates.DELAY;
    private static final Due due = new Due();

    public static void main(String[] args) throws Exception {
        Due.runAll(SettingsAndPiecesEdgesTest.class, due);
    }

    // ---- promise 1

    /** "Creates a night without pieces and plates." */
    private static void promise01NoPiecesAndPlates() {
        CopyPlates x = new CopyPlates();
        int[] empty = {1, 2, 3, 4, 5, 6, 7, 8, 9};
        for (int what : empty) {
            due.is("count(" + what + ")", x.count(what), 0);
        }
        due.is("ofPiece(0, 0)", x.ofPiece(0, 0), NO_SUCH);
        due.is("ofPlate(0, 0)", x.ofPlate(0, 0), NO_SUCH);
        due.is("plateNow()", x.plateNow(), 0);
    }

    /** Terms: "the minute of now is the one that passes next (0 at first)". */
    private static void promise01MinuteOfNowIs0AtFirst() {
        CopyPlates x = new CopyPlates();
        due.is("count(0)", x.count(0), 0);
        due.is("plate(0)", x.plate(0), 0);
        due.is("pass(1)", x.pass(1), 1);
    }

    /** Terms: "(In parentheses: range; first value.)": 4, 10, 60, 5. */
    private static void promise01FirstValuesOfTheSettings() {
        CopyPlates x = new CopyPlates();
        due.is("EDIT", x.count(10), 4);
        due.is("LEGAL", x.count(11), 10);
        due.is("ROOM", x.count(12), 60);
        due.is("DELAY", x.count(13), 5);
    }

    /** A new object has an empty pad, no history, and nothing in its slots. */
    private static void promise01NothingOnThePadInTheHistoryOrTheSlots() {
        CopyPlates x = new CopyPlates();
        due.is("count(14)", x.count(14), 0);
        due.is("count(15)", x.count(15), 0);
        due.is("undo()", x.undo(), NOT_POSSIBLE);
        due.is("restore(0)", x.restore(0), NOT_POSSIBLE);
        due.is("restore(1)", x.restore(1), NOT_POSSIBLE);
        due.is("wipe()", x.wipe(), 0);
    }

    /** What one object does is not seen in another. */
    private static void promise01ObjectsAreApart() {
        CopyPlates x = new CopyPlates();
        CopyPlates y = new CopyPlates();
        String before = Due.stateOf(y);
        x.set(ROOM, 99);
        x.piece(0, 9, 9, 1);
        x.plate(2);
        x.pass(3);
        x.put('p');
        x.save(0);
        due.same("the other night", Due.stateOf(y), before);
        due.is("the other pad", y.count(14), 0);
        due.is("the other history", y.count(15), 0);
        due.is("the other slot", y.restore(0), NOT_POSSIBLE);
        due.same("a night made then", Due.stateOf(new CopyPlates()), before);
    }

    /** What it is: "An object is used for at most 512 calls after it has been made": the 512th is answered. */
    private static void promise01The512thCall() {
        CopyPlates x = new CopyPlates();
        x.piece(0, 4, 5, 0);
        for (int i = 0; i < 170; i++) {
            x.pass(2);
            x.save(i % 2);
            x.undo();
        }
        due.is("the 512th call", x.pass(600), 0);
        CopyPlates y = new CopyPlates();
        for (int i = 0; i < 511; i++) {
            y.pass(1);
        }
        due.is("the 512th call", y.count(0), 511);
    }

    // ---- promise 2

    /** Tries both ends of a range, and the values just out of it. */
    private static void range(int setting, int least, int greatest) {
        CopyPlates x = new CopyPlates();
        int first = x.count(10 + setting);
        due.is("below", x.set(setting, least - 1), BAD_VALUE);
        due.is("above", x.set(setting, greatest + 1), BAD_VALUE);
        due.is("MIN", x.set(setting, Integer.MIN_VALUE), BAD_VALUE);
        due.is("MAX", x.set(setting, Integer.MAX_VALUE), BAD_VALUE);
        due.is("it stays", x.count(10 + setting), first);
        due.is("least", x.set(setting, least), first);
        due.is("least stands", x.count(10 + setting), least);
        due.is("greatest", x.set(setting, greatest), least);
        due.is("greatest stands", x.count(10 + setting), greatest);
    }

    /** Terms: "EDIT (1 to 20; 4)". */
    private static void promise02RangeOfEdit() {
        range(EDIT, 1, 20);
    }

    /** Terms: "LEGAL (1 to 60; 10)". */
    private static void promise02RangeOfLegal() {
        range(LEGAL, 1, 60);
    }

    /** Terms: "ROOM (10 to 400; 60)". */
    private static void promise02RangeOfRoom() {
        range(ROOM, 10, 400);
    }

    /** Terms: "DELAY (1 to 60; 5)". */
    private static void promise02RangeOfDelay() {
        range(DELAY, 1, 60);
    }

    /** "BAD_VALUE if there is no such setting". */
    private static void promise02NoSuchSetting() {
        CopyPlates x = new CopyPlates();
        due.is("set(-1, 10)", x.set(-1, 10), BAD_VALUE);
        due.is("set(4, 10)", x.set(4, 10), BAD_VALUE);
        due.is("set(MIN, 10)", x.set(Integer.MIN_VALUE, 10), BAD_VALUE);
        due.is("set(MAX, 10)", x.set(Integer.MAX_VALUE, 10), BAD_VALUE);
    }

    /** "Returns the previous value": the first one, one that was set, the same again. */
    private static void promise02ReturnsThePreviousValue() {
        CopyPlates x = new CopyPlates();
        due.is("set(EDIT, 7)", x.set(EDIT, 7), 4);
        due.is("set(EDIT, 8)", x.set(EDIT, 8), 7);
        due.is("set(EDIT, 8)", x.set(EDIT, 8), 8);
        due.is("set(DELAY, 8)", x.set(DELAY, 8), 5);
    }

    /** A setting leaves the others. */
    private static void promise02LeavesTheOtherSettings() {
        for (int setting = 0; setting < 4; setting++) {
            CopyPlates x = new CopyPlates();
            int[] values = {4, 10, 60, 5};
            values[setting] = 15;
            x.set(setting, 15);
            for (int other = 0; other < 4; other++) {
                due.is("setting " + other + " behind set(" + setting + ", 15)", x.count(10 + other), values[other]);
            }
        }
    }

    /** "This is a change." Also if the value is the one that it was. */
    private static void promise02IsAChange() {
        CopyPlates x = new CopyPlates();
        x.set(EDIT, 4);
        due.is("count(15)", x.count(15), 1);
        x.set(EDIT, 5);
        due.is("count(15)", x.count(15), 2);
        x.undo();
        due.is("EDIT", x.count(10), 4);
    }

    /** Terms: EDIT is "lines that an editor edits in a minute", by the least value, 1. */
    private static void promise02LeastEdit() {
        CopyPlates x = new CopyPlates();
        x.set(EDIT, 1);
        x.piece(0, 2, 5, 0);
        x.pass(1);
        due.is("lines", x.ofPiece(0, 6), 1);
        x.pass(1);
        due.is("ready in", x.ofPiece(0, 9), 1);
    }

    /** Terms: EDIT by the greatest value, 20. */
    private static void promise02GreatestEdit() {
        CopyPlates x = new CopyPlates();
        x.set(EDIT, 20);
        x.piece(0, 20, 5, 0);
        x.piece(1, 21, 5, 0);
        x.pass(1);
        due.is("20 lines", x.ofPiece(0, 9), 0);
        due.is("21 lines", x.ofPiece(1, 9), NONE);
        due.is("21 lines", x.ofPiece(1, 6), 20);
    }

    /** Terms: LEGAL is "minutes that the lawyer reads a piece", by the least value, 1. */
    private static void promise02LeastLegal() {
        CopyPlates x = new CopyPlates();
        x.set(LEGAL, 1);
        x.piece(0, 4, 5, 1);
        x.pass(1);
        due.is("ready in", x.ofPiece(0, 9), 0);
        due.is("minutes read", x.ofPiece(0, 7), 1);
    }

    /** Terms: LEGAL by the greatest value, 60. */
    private static void promise02GreatestLegal() {
        CopyPlates x = new CopyPlates();
        x.set(LEGAL, 60);
        x.piece(0, 4, 5, 1);
        x.pass(59);
        due.is("behind 59 minutes", x.ofPiece(0, 4), 1);
        x.pass(1);
        due.is("behind 60 minutes", x.ofPiece(0, 4), 2);
        due.is("ready in", x.ofPiece(0, 9), 59);
    }

    /** Terms: ROOM is "lines of a plate", by the least value, 10. */
    private static void promise02LeastRoom() {
        CopyPlates x = new CopyPlates();
        x.set(ROOM, 10);
        x.piece(0, 10, 5, 0);
        x.piece(1, 11, 9, 0);
        x.pass(5);
        due.is("plateNow()", x.plateNow(), 1);
    }

    /** Terms: ROOM by the greatest value, 400. */
    private static void promise02GreatestRoom() {
        CopyPlates x = new CopyPlates();
        x.set(ROOM, 400);
        x.set(EDIT, 20);
        for (int desk = 0; desk < 4; desk++) {
            x.piece(desk, 99, 9, 0);
        }
        x.piece(4, 5, 8, 0);
        x.pass(9);
        due.is("401 lines", x.plateNow(), 1 + 2 + 4 + 8);
        x.piece(4, 4, 7, 0);
        x.pass(1);
        due.is("400 lines", x.plateNow(), 1 + 2 + 4 + 8 + 32);
    }

    private static int minuteOfReplate(int delay) {
        CopyPlates x = new CopyPlates();
        x.set(DELAY, delay);
        x.piece(0, 1, 5, 0);
        x.plate(0);
        x.pass(1);
        x.kill(0);
        return x.ofPlate(1, 0);
    }

    /** Terms: DELAY, by its least and its greatest value. */
    private static void promise02LeastAndGreatestDelay() {
        due.is("DELAY 1", minuteOfReplate(1), 1 + 1);
        due.is("DELAY 60", minuteOfReplate(60), 1 + 60);
    }

    // ---- promise 3

    /** "NO_SUCH if there is no such desk"; Terms: "A piece is of a desk (0 to 4)". */
    private static void promise03Desks() {
        CopyPlates x = new CopyPlates();
        due.is("desk -1", x.piece(-1, 1, 5, 0), NO_SUCH);
        due.is("desk 5", x.piece(5, 1, 5, 0), NO_SUCH);
        due.is("desk MIN", x.piece(Integer.MIN_VALUE, 1, 5, 0), NO_SUCH);
        due.is("desk MAX", x.piece(Integer.MAX_VALUE, 1, 5, 0), NO_SUCH);
        due.is("desk 0", x.piece(0, 1, 5, 0), 0);
        due.is("desk 4", x.piece(4, 1, 5, 0), 1);
        due.is("ofPiece(0, 0)", x.ofPiece(0, 0), 0);
        due.is("ofPiece(1, 0)", x.ofPiece(1, 0), 4);
    }

    /** "lines: 1 to 99". */
    private static void promise03Lines() {
        CopyPlates x = new CopyPlates();
        due.is("0 lines", x.piece(0, 0, 5, 0), BAD_VALUE);
        due.is("100 lines", x.piece(0, 100, 5, 0), BAD_VALUE);
        due.is("MIN lines", x.piece(0, Integer.MIN_VALUE, 5, 0), BAD_VALUE);
        due.is("MAX lines", x.piece(0, Integer.MAX_VALUE, 5, 0), BAD_VALUE);
        due.is("1 line", x.piece(0, 1, 5, 0), 0);
        due.is("99 lines", x.piece(0, 99, 5, 0), 1);
        due.is("ofPiece(0, 1)", x.ofPiece(0, 1), 1);
        due.is("ofPiece(1, 1)", x.ofPiece(1, 1), 99);
    }

    /** "rank: 0 to 9". */
    private static void promise03Ranks() {
        CopyPlates x = new CopyPlates();
        due.is("rank -1", x.piece(0, 1, -1, 0), BAD_VALUE);
        due.is("rank 10", x.piece(0, 1, 10, 0), BAD_VALUE);
        due.is("rank MIN", x.piece(0, 1, Integer.MIN_VALUE, 0), BAD_VALUE);
        due.is("rank MAX", x.piece(0, 1, Integer.MAX_VALUE, 0), BAD_VALUE);
        due.is("rank 0", x.piece(0, 1, 0, 0), 0);
        due.is("rank 9", x.piece(0, 1, 9, 0), 1);
        due.is("ofPiece(0, 2)", x.ofPiece(0, 2), 0);
        due.is("ofPiece(1, 2)", x.ofPiece(1, 2), 9);
    }

    /** "legal: 1 if it is legal, otherwise 0". */
    private static void promise03Legal() {
        CopyPlates x = new CopyPlates();
        due.is("legal -1", x.piece(0, 1, 5, -1), BAD_VALUE);
        due.is("legal 2", x.piece(0, 1, 5, 2), BAD_VALUE);
        due.is("legal MIN", x.piece(0, 1, 5, Integer.MIN_VALUE), BAD_VALUE);
        due.is("legal MAX", x.piece(0, 1, 5, Integer.MAX_VALUE), BAD_VALUE);
        due.is("legal 0", x.piece(0, 1, 5, 0), 0);
        due.is("legal 1", x.piece(0, 1, 5, 1), 1);
        due.is("ofPiece(0, 3)", x.ofPiece(0, 3), 0);
        due.is("ofPiece(1, 3)", x.ofPiece(1, 3), 1);
    }

    /** Terms: "There are up to 24 pieces"; "TOO_MANY if there are 24 pieces". */
    private static void promise03UpTo24Pieces() {
        CopyPlates x = new CopyPlates();
        for (int i = 0; i < 24; i++) {
            due.is("piece", x.piece(4, 99, 9, 1), i);
        }
        due.is("25th", x.piece(4, 99, 9, 1), TOO_MANY);
        due.is("count(1)", x.count(1), 24);
        due.is("ofPiece(23, 8)", x.ofPiece(23, 8), 23);
    }

    /** The 24 pieces are counted with those that are killed and those that are ready. */
    private static void promise03KilledAndReadyOnesAreAmongThe24() {
        CopyPlates x = new CopyPlates();
        for (int i = 0; i < 24; i++) {
            x.piece(i % 5, 1, 9, 0);
        }
        x.pass(1);
        x.kill(0);
        x.kill(23);
        due.is("25th", x.piece(4, 99, 9, 1), TOO_MANY);
    }

    /** Terms: "numbered in the order in which they came", also behind one that was killed, and one undone. */
    private static void promise03NumberedAsTheyCame() {
        CopyPlates x = new CopyPlates();
        due.is("first", x.piece(3, 1, 0, 0), 0);
        due.is("second", x.piece(1, 2, 9, 1), 1);
        x.kill(1);
        due.is("third", x.piece(0, 3, 9, 0), 2);
        x.undo();
        due.is("third again", x.piece(2, 4, 9, 0), 2);
        due.is("ofPiece(0, 1)", x.ofPiece(0, 1), 1);
        due.is("ofPiece(1, 1)", x.ofPiece(1, 1), 2);
        due.is("ofPiece(2, 1)", x.ofPiece(2, 1), 4);
    }

    /** Terms: "A piece comes to the end of the queue of its desk": an empty one, and one with pieces. */
    private static void promise03ComesToTheEndOfItsDesksQueue() {
        CopyPlates x = new CopyPlates();
        x.piece(0, 9, 0, 0);
        x.piece(1, 9, 9, 0);
        x.piece(0, 9, 9, 0);
        due.is("first of desk 0", x.ofPiece(0, 8), 0);
        due.is("first of desk 1", x.ofPiece(1, 8), 0);
        due.is("second of desk 0", x.ofPiece(2, 8), 1);
        x.kill(0);
        x.piece(0, 9, 9, 0);
        due.is("behind the one that is left", x.ofPiece(3, 8), 1);
    }

    /** Terms: a piece that came is at its desk (0), is not held, and has no work done, nor a plate. */
    private static void promise03IsAtItsDesk() {
        CopyPlates x = new CopyPlates();
        x.plate(0);
        x.pass(1);
        x.piece(2, 9, 9, 1);
        int[] facts = {2, 9, 9, 1, 0, 0, 0, 0, 0, NONE, 0};
        for (int what = 0; what <= 10; what++) {
            due.is("ofPiece(0, " + what + ")", x.ofPiece(0, what), facts[what]);
        }
    }

    /** A piece may come when the night has passed; nothing in the document refuses it. */
    private static void promise03BehindTheLastMinute() {
        CopyPlates x = new CopyPlates();
        x.pass(600);
        due.is("piece", x.piece(0, 1, 5, 0), 0);
        due.is("ofPiece(0, 4)", x.ofPiece(0, 4), 0);
    }

    /** "A piece comes. This is a change." */
    private static void promise03IsAChange() {
        CopyPlates x = new CopyPlates();
        x.piece(0, 1, 5, 0);
        due.is("count(15)", x.count(15), 1);
        due.is("undo()", x.undo(), 0);
        due.is("count(1)", x.count(1), 0);
        due.is("ofPiece(0, 0)", x.ofPiece(0, 0), NO_SUCH);
    }

    // ---- promise 5

    /** "Holds a piece, or holds it no more"; "Returns 1 if it is held then, otherwise 0". */
    private static void promise05HoldsAndHoldsNoMore() {
        CopyPlates x = new CopyPlates();
        x.piece(0, 1, 5, 0);
        x.piece(0, 1, 5, 0);
        for (int i = 0; i < 3; i++) {
            due.is("hold(1)", x.hold(1), 1);
            due.is("ofPiece(1, 5)", x.ofPiece(1, 5), 1);
            due.is("the other one", x.ofPiece(0, 5), 0);
            due.is("hold(1)", x.hold(1), 0);
            due.is("ofPiece(1, 5)", x.ofPiece(1, 5), 0);
        }
    }

    /** "NO_SUCH if there is no such piece". */
    private static void promise05NoSuchPiece() {
        CopyPlates x = new CopyPlates();
        due.is("hold(0) without a piece", x.hold(0), NO_SUCH);
        x.piece(0, 1, 5, 0);
        due.is("hold(-1)", x.hold(-1), NO_SUCH);
        due.is("hold(1)", x.hold(1), NO_SUCH);
        due.is("hold(24)", x.hold(24), NO_SUCH);
        due.is("hold(MIN)", x.hold(Integer.MIN_VALUE), NO_SUCH);
        due.is("hold(MAX)", x.hold(Integer.MAX_VALUE), NO_SUCH);
        due.is("hold(0)", x.hold(0), 1);
    }

    /** The last of 24 pieces can be held. */
    private static void promise05LastOf24Pieces() {
        CopyPlates x = new CopyPlates();
        for (int i = 0; i < 24; i++) {
            x.piece(0, 1, 5, 0);
        }
        due.is("hold(23)", x.hold(23), 1);
        due.is("hold(24)", x.hold(24), NO_SUCH);
        due.is("count(8)", x.count(8), 1);
    }

    /** "NOT_POSSIBLE if it is killed", whether it was held or not. */
    private static void promise05KilledPiece() {
        CopyPlates x = new CopyPlates();
        x.piece(0, 1, 5, 0);
        x.piece(0, 1, 5, 0);
        x.hold(0);
        x.kill(0);
        x.kill(1);
        due.is("hold(0)", x.hold(0), NOT_POSSIBLE);
        due.is("hold(1)", x.hold(1), NOT_POSSIBLE);
    }

    /** Terms: "besides, it can be held": at its desk, at the lawyer's, and ready; how it is stays. */
    private static void promise05HeldInEachState() {
        CopyPlates x = new CopyPlates();
        x.piece(0, 99, 5, 0);
        x.piece(1, 4, 5, 1);
        x.piece(2, 4, 5, 0);
        x.pass(1);
        for (int piece = 0; piece < 3; piece++) {
            due.is("hold(" + piece + ")", x.hold(piece), 1);
            due.is("ofPiece(" + piece + ", 4)", x.ofPiece(piece, 4), piece);
            due.is("hold(" + piece + ") again", x.hold(piece), 0);
            due.is("ofPiece(" + piece + ", 4)", x.ofPiece(piece, 4), piece);
        }
    }

    /** A hold moves no piece in its queue. */
    private static void promise05HeldPieceKeepsItsPlace() {
        CopyPlates x = new CopyPlates();
        x.piece(0, 9, 5, 0);
        x.piece(0, 9, 5, 0);
        x.hold(0);
        due.is("held first", x.ofPiece(0, 8), 0);
        due.is("second", x.ofPiece(1, 8), 1);
        x.hold(0);
        due.is("first", x.ofPiece(0, 8), 0);
    }

    /** "This is a change", both ways. */
    private static void promise05IsAChange() {
        CopyPlates x = new CopyPlates();
        x.piece(0, 1, 5, 0);
        x.hold(0);
        x.hold(0);
        due.is("count(15)", x.count(15), 3);
        due.is("undo()", x.undo(), 2);
        due.is("ofPiece(0, 5)", x.ofPiece(0, 5), 1);
        due.is("undo()", x.undo(), 1);
        due.is("ofPiece(0, 5)", x.ofPiece(0, 5), 0);
    }
}
