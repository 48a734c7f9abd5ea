/** Promises 8 to 10. Each method is the test of one sentence; the comment quotes it. */
public final class FactsEdgesTest {
    private static final int NO_SUCH = CopyPlates.NO_SUCH;
    private static final int BAD_VALUE = CopyPlates.BAD_VALUE;
    private static final int NONE = CopyPlates.NONE;
    private static final Due due = new Due();

    public static void main(String[] args) throws Exception {
        Due.runAll(FactsEdgesTest.class, due);
    }

    private static void facts(String when, CopyPlates x, int what, int... answers) {
        for (int piece = 0; piece < answers.length; piece++) {
            due.is("ofPiece(" + piece + ", " + what + ") " + when, x.ofPiece(piece, what), answers[piece]);
        }
    }

    /** Pieces 0 at its desk, 1 at the lawyer's, 2 ready, 3 killed; the minute of now is 2. */
    private static CopyPlates inEachState() {
        CopyPlates x = new CopyPlates();
        x.piece(0, 99, 0, 0);
        x.piece(4, 4, 9, 1);
        x.piece(2, 1, 5, 0);
        x.piece(3, 9, 1, 1);
        x.pass(2);
        x.kill(3);
        return x;
    }

    // ---- promise 8

    /** "NO_SUCH if there is no such piece". */
    private static void promise08NoSuchPiece() {
        CopyPlates x = new CopyPlates();
        due.is("ofPiece(0, 0) without a piece", x.ofPiece(0, 0), NO_SUCH);
        x.piece(3, 1, 5, 0);
        due.is("ofPiece(-1, 0)", x.ofPiece(-1, 0), NO_SUCH);
        due.is("ofPiece(1, 0)", x.ofPiece(1, 0), NO_SUCH);
        due.is("ofPiece(24, 0)", x.ofPiece(24, 0), NO_SUCH);
        due.is("ofPiece(MIN, 0)", x.ofPiece(Integer.MIN_VALUE, 0), NO_SUCH);
        due.is("ofPiece(MAX, 0)", x.ofPiece(Integer.MAX_VALUE, 0), NO_SUCH);
        due.is("ofPiece(0, 0)", x.ofPiece(0, 0), 3);
    }

    /** The last of 24 pieces can be asked about. */
    private static void promise08LastOf24Pieces() {
        CopyPlates x = new CopyPlates();
        for (int i = 0; i < 24; i++) {
            x.piece(i % 5, 1 + i, 5, 0);
        }
        due.is("ofPiece(23, 1)", x.ofPiece(23, 1), 24);
        due.is("ofPiece(24, 1)", x.ofPiece(24, 1), NO_SUCH);
    }

    /** "BAD_VALUE if what is out of range": 0 and 10 are in. */
    private static void promise08RangeOfWhat() {
        CopyPlates x = new CopyPlates();
        x.piece(3, 1, 5, 0);
        due.is("ofPiece(0, -1)", x.ofPiece(0, -1), BAD_VALUE);
        due.is("ofPiece(0, 11)", x.ofPiece(0, 11), BAD_VALUE);
        due.is("ofPiece(0, MIN)", x.ofPiece(0, Integer.MIN_VALUE), BAD_VALUE);
        due.is("ofPiece(0, MAX)", x.ofPiece(0, Integer.MAX_VALUE), BAD_VALUE);
        due.is("ofPiece(0, 0)", x.ofPiece(0, 0), 3);
        due.is("ofPiece(0, 10)", x.ofPiece(0, 10), 0);
    }

    /** "0 its desk, 1 its lines, 2 its rank, 3 whether it is legal": least and greatest, in each state. */
    private static void promise08WhatItCameWith() {
        CopyPlates x = inEachState();
        facts("desk", x, 0, 0, 4, 2, 3);
        facts("lines", x, 1, 99, 4, 1, 9);
        facts("rank", x, 2, 0, 9, 5, 1);
        facts("legal", x, 3, 0, 1, 0, 1);
    }

    /** "4 how it is, 0 to 3". */
    private static void promise08HowItIs() {
        facts("how it is", inEachState(), 4, 0, 1, 2, 3);
    }

    /** "5 whether it is held". */
    private static void promise08WhetherItIsHeld() {
        CopyPlates x = inEachState();
        facts("none is held", x, 5, 0, 0, 0, 0);
        x.hold(0);
        x.hold(2);
        facts("two are held", x, 5, 1, 0, 1, 0);
        x.hold(0);
        facts("one is held", x, 5, 0, 0, 1, 0);
    }

    /** "5 whether it is held": "killed (3); besides, it can be held": a kill takes no hold away. */
    private static void promise08HeldPieceThatIsKilled() {
        CopyPlates x = inEachState();
        x.hold(2);
        x.kill(2);
        facts("a held one is killed", x, 5, 0, 0, 1, 0);
    }

    /** "6 lines that are edited": none, some, all, those of a killed one. */
    private static void promise08LinesThatAreEdited() {
        CopyPlates x = inEachState();
        facts("edited", x, 6, 8, 4, 1, 8);
        x.piece(1, 9, 5, 0);
        due.is("of one that came", x.ofPiece(4, 6), 0);
    }

    /** "7 minutes that it was read": none, some, LEGAL, those of a killed one. */
    private static void promise08MinutesThatItWasRead() {
        CopyPlates x = inEachState();
        facts("read", x, 7, 0, 2, 0, 0);
        x.pass(8);
        facts("read", x, 7, 0, 10, 0, 0);
        x.pass(9);
        x.kill(1);
        facts("read", x, 7, 0, 10, 0, 0);
        CopyPlates y = inEachState();
        y.kill(1);
        y.pass(9);
        facts("read, then killed", y, 7, 0, 2, 0, 0);
    }

    /** "8 its place in its queue": from 0, at its desk, those of other desks do not count. */
    private static void promise08PlaceAtItsDesk() {
        CopyPlates x = new CopyPlates();
        for (int i = 0; i < 6; i++) {
            x.piece(i % 2, 9, 5, 0);
        }
        facts("place", x, 8, 0, 0, 1, 1, 2, 2);
    }

    /** "8 its place in its queue": from 0, at the lawyer's, by the order in which they came there. */
    private static void promise08PlaceAtTheLawyers() {
        CopyPlates x = new CopyPlates();
        x.piece(1, 8, 5, 1);
        x.piece(2, 4, 5, 1);
        x.piece(0, 8, 5, 1);
        x.pass(2);
        facts("place", x, 8, 2, 0, 1);
    }

    /** "8 its place in its queue": the greatest, of 24 pieces of one desk. */
    private static void promise08GreatestPlace() {
        CopyPlates x = new CopyPlates();
        for (int i = 0; i < 24; i++) {
            x.piece(0, 1, 5, 0);
        }
        due.is("ofPiece(23, 8)", x.ofPiece(23, 8), 23);
        x.pass(1);
        due.is("ofPiece(23, 8)", x.ofPiece(23, 8), 22);
    }

    /** "8 its place in its queue (NONE)": of one that is ready, and of one that is killed. */
    private static void promise08NoPlace() {
        facts("place", inEachState(), 8, 0, 0, NONE, NONE);
    }

    /** "9 the minute in which it became ready .. (NONE if it did not become ready)": minute 0 is no NONE. */
    private static void promise08MinuteInWhichItBecameReady() {
        CopyPlates x = inEachState();
        facts("ready in", x, 9, NONE, NONE, 0, NONE);
        x.pass(8);
        facts("ready in", x, 9, NONE, 9, 0, NONE);
    }

    /** "9 the minute in which it became ready": 599 is the last one. */
    private static void promise08ReadyInMinute599() {
        CopyPlates x = new CopyPlates();
        x.pass(599);
        x.piece(0, 4, 5, 0);
        x.pass(1);
        due.is("ofPiece(0, 9)", x.ofPiece(0, 9), 599);
    }

    /** "also of one that was killed since". */
    private static void promise08ReadyAndKilledSince() {
        CopyPlates x = inEachState();
        x.pass(8);
        x.kill(1);
        x.kill(2);
        x.pass(1);
        facts("ready in", x, 9, NONE, 9, 0, NONE);
    }

    /** "10 the plates on which it is, as a set": of none, one, and several; not of those that are due. */
    private static void promise08PlatesOnWhichItIs() {
        CopyPlates x = inEachState();
        x.plate(2);
        x.plate(9);
        x.plate(500);
        facts("none is made", x, 10, 0, 0, 0, 0);
        x.pass(1);
        facts("one is made", x, 10, 0, 0, 1, 0);
        x.pass(7);
        facts("two are made", x, 10, 0, 2, 3, 0);
    }

    /** "10 the plates on which it is": also of one that was killed since. */
    private static void promise08PlatesOfAKilledPiece() {
        CopyPlates x = inEachState();
        x.plate(2);
        x.pass(1);
        x.kill(2);
        x.pass(9);
        facts("killed since", x, 10, 0, 0, 1, 0);
    }

    // ---- promise 9

    /** "NO_SUCH if there is no such plate". */
    private static void promise09NoSuchPlate() {
        CopyPlates x = new CopyPlates();
        due.is("ofPlate(0, 0) without a plate", x.ofPlate(0, 0), NO_SUCH);
        x.plate(7);
        due.is("ofPlate(-1, 0)", x.ofPlate(-1, 0), NO_SUCH);
        due.is("ofPlate(1, 0)", x.ofPlate(1, 0), NO_SUCH);
        due.is("ofPlate(8, 0)", x.ofPlate(8, 0), NO_SUCH);
        due.is("ofPlate(MIN, 0)", x.ofPlate(Integer.MIN_VALUE, 0), NO_SUCH);
        due.is("ofPlate(MAX, 0)", x.ofPlate(Integer.MAX_VALUE, 0), NO_SUCH);
        due.is("ofPlate(0, 0)", x.ofPlate(0, 0), 7);
    }

    /** The last of 8 plates can be asked about. */
    private static void promise09LastOf8Plates() {
        CopyPlates x = new CopyPlates();
        for (int i = 0; i < 8; i++) {
            x.plate(50 + i);
        }
        due.is("ofPlate(7, 0)", x.ofPlate(7, 0), 57);
        due.is("ofPlate(8, 0)", x.ofPlate(8, 0), NO_SUCH);
    }

    /** "BAD_VALUE if what is out of range": 0 and 4 are in. */
    private static void promise09RangeOfWhat() {
        CopyPlates x = new CopyPlates();
        x.plate(7);
        due.is("ofPlate(0, -1)", x.ofPlate(0, -1), BAD_VALUE);
        due.is("ofPlate(0, 5)", x.ofPlate(0, 5), BAD_VALUE);
        due.is("ofPlate(0, MIN)", x.ofPlate(0, Integer.MIN_VALUE), BAD_VALUE);
        due.is("ofPlate(0, MAX)", x.ofPlate(0, Integer.MAX_VALUE), BAD_VALUE);
        due.is("ofPlate(0, 0)", x.ofPlate(0, 0), 7);
        due.is("ofPlate(0, 4)", x.ofPlate(0, 4), 0);
    }

    /** "0 its minute": 0 and 599, due and made. */
    private static void promise09Minute() {
        CopyPlates x = new CopyPlates();
        x.plate(0);
        x.plate(599);
        due.is("ofPlate(0, 0)", x.ofPlate(0, 0), 0);
        due.is("ofPlate(1, 0)", x.ofPlate(1, 0), 599);
        x.pass(600);
        due.is("ofPlate(0, 0)", x.ofPlate(0, 0), 0);
        due.is("ofPlate(1, 0)", x.ofPlate(1, 0), 599);
    }

    /** "1 whether it is made": not in the minutes before it, not when its minute is now, but behind it. */
    private static void promise09WhetherItIsMade() {
        CopyPlates x = new CopyPlates();
        x.plate(3);
        due.is("at 0", x.ofPlate(0, 1), 0);
        x.pass(3);
        due.is("at 3", x.ofPlate(0, 1), 0);
        x.pass(1);
        due.is("at 4", x.ofPlate(0, 1), 1);
        x.undo();
        due.is("at 3 again", x.ofPlate(0, 1), 0);
    }

    /** "2 whether it is a replate (1 or 0)": due and made. */
    private static void promise09WhetherItIsAReplate() {
        CopyPlates x = new CopyPlates();
        x.piece(0, 1, 5, 0);
        x.plate(0);
        x.pass(1);
        x.kill(0);
        for (int i = 0; i < 2; i++) {
            due.is("ofPlate(0, 2)", x.ofPlate(0, 2), 0);
            due.is("ofPlate(1, 2)", x.ofPlate(1, 2), 1);
            x.pass(9);
        }
    }

    /** "3 its pieces, as a set", "4 its lines": as they were when it was made, whatever comes then. */
    private static void promise09PiecesAndLinesStay() {
        CopyPlates x = new CopyPlates();
        x.piece(0, 4, 5, 0);
        x.piece(1, 3, 5, 0);
        x.piece(2, 5, 5, 0);
        x.plate(0);
        x.pass(1);
        due.is("ofPlate(0, 3)", x.ofPlate(0, 3), 3);
        due.is("ofPlate(0, 4)", x.ofPlate(0, 4), 7);
        x.kill(0);
        x.hold(1);
        x.set(CopyPlates.ROOM, 10);
        x.pass(9);
        due.is("ofPlate(0, 3)", x.ofPlate(0, 3), 3);
        due.is("ofPlate(0, 4)", x.ofPlate(0, 4), 7);
    }

    /** "(3, 4: 0 if it is not made)": also in its minute, with pieces that are ready. */
    private static void promise09NoPiecesIfItIsNotMade() {
        CopyPlates x = new CopyPlates();
        x.piece(0, 4, 5, 0);
        x.plate(2);
        x.pass(2);
        due.is("ofPlate(0, 3)", x.ofPlate(0, 3), 0);
        due.is("ofPlate(0, 4)", x.ofPlate(0, 4), 0);
        x.pass(1);
        due.is("ofPlate(0, 3)", x.ofPlate(0, 3), 1);
        due.is("ofPlate(0, 4)", x.ofPlate(0, 4), 4);
    }

    /** "4 its lines": the greatest, 400 of ROOM 400. */
    private static void promise09GreatestLines() {
        CopyPlates x = new CopyPlates();
        x.set(CopyPlates.EDIT, 20);
        x.set(CopyPlates.ROOM, 400);
        for (int desk = 0; desk < 4; desk++) {
            x.piece(desk, 99, 9, 0);
        }
        x.piece(4, 4, 8, 0);
        x.plate(9);
        x.pass(10);
        due.is("ofPlate(0, 4)", x.ofPlate(0, 4), 400);
        due.is("ofPlate(0, 3)", x.ofPlate(0, 3), 31);
    }

    // ---- promise 10

    /** "BAD_VALUE if what is out of range": 0 and 15 are in. */
    private static void promise10RangeOfWhat() {
        CopyPlates x = new CopyPlates();
        due.is("count(-1)", x.count(-1), BAD_VALUE);
        due.is("count(16)", x.count(16), BAD_VALUE);
        due.is("count(MIN)", x.count(Integer.MIN_VALUE), BAD_VALUE);
        due.is("count(MAX)", x.count(Integer.MAX_VALUE), BAD_VALUE);
        due.is("count(0)", x.count(0), 0);
        due.is("count(15)", x.count(15), 0);
    }

    /** "0 the minute of now": 0 to 600. */
    private static void promise10MinuteOfNow() {
        CopyPlates x = new CopyPlates();
        due.is("at first", x.count(0), 0);
        x.pass(1);
        due.is("behind a minute", x.count(0), 1);
        x.pass(599);
        due.is("behind all", x.count(0), 600);
    }

    /** "1 pieces": 0 to 24, killed ones, too. */
    private static void promise10Pieces() {
        CopyPlates x = new CopyPlates();
        for (int i = 0; i < 24; i++) {
            due.is("count(1)", x.count(1), i);
            x.piece(0, 1, 5, 0);
        }
        x.kill(3);
        due.is("count(1)", x.count(1), 24);
    }

    /** "2 plates, 3 plates that are made": 0 to 8. */
    private static void promise10PlatesAndMadeOnes() {
        CopyPlates x = new CopyPlates();
        for (int i = 0; i < 8; i++) {
            due.is("count(2)", x.count(2), i);
            x.plate(i);
        }
        for (int i = 0; i < 8; i++) {
            due.is("count(3)", x.count(3), i);
            due.is("count(2)", x.count(2), 8);
            x.pass(1);
        }
        due.is("count(3)", x.count(3), 8);
    }

    /** "4 pieces at desks, 5 at the lawyer's, 6 ready, 7 killed". */
    private static void promise10PiecesByHowTheyAre() {
        CopyPlates x = new CopyPlates();
        for (int i = 0; i < 4; i++) {
            x.piece(i, 4, 5, i % 2);
        }
        x.piece(4, 9, 5, 1);
        due.is("count(4)", x.count(4), 5);
        x.pass(1);
        x.kill(0);
        int[] counts = {1, 2, 1, 1};
        for (int state = 0; state < 4; state++) {
            due.is("count(" + (4 + state) + ")", x.count(4 + state), counts[state]);
        }
        x.pass(20);
        due.is("count(4)", x.count(4), 0);
        due.is("count(5)", x.count(5), 1);
        due.is("count(6)", x.count(6), 3);
        due.is("count(7)", x.count(7), 1);
    }

    /** "8 held pieces (killed ones not)": in each state. */
    private static void promise10HeldPiecesWithoutKilledOnes() {
        CopyPlates x = inEachState();
        due.is("none", x.count(8), 0);
        for (int piece = 0; piece < 3; piece++) {
            x.hold(piece);
            due.is("held", x.count(8), piece + 1);
        }
        x.kill(1);
        due.is("one of them killed", x.count(8), 2);
        x.hold(0);
        due.is("one held no more", x.count(8), 1);
    }

    /** "9 replates": due and made. */
    private static void promise10Replates() {
        CopyPlates x = new CopyPlates();
        x.piece(0, 1, 5, 0);
        x.piece(1, 1, 5, 0);
        x.plate(0);
        x.plate(300);
        x.pass(1);
        due.is("none", x.count(9), 0);
        x.kill(0);
        due.is("one is due", x.count(9), 1);
        x.pass(6);
        due.is("one is made", x.count(9), 1);
        x.kill(1);
        due.is("one more", x.count(9), 2);
    }

    /** "10 to 13 the settings": each one in its place. */
    private static void promise10Settings() {
        CopyPlates x = new CopyPlates();
        for (int setting = 0; setting < 4; setting++) {
            x.set(setting, 11 + setting);
        }
        for (int setting = 0; setting < 4; setting++) {
            due.is("count(" + (10 + setting) + ")", x.count(10 + setting), 11 + setting);
        }
    }

    /** "14 the length of the pad": 0 to 80. */
    private static void promise10LengthOfThePad() {
        CopyPlates x = new CopyPlates();
        for (int i = 0; i < 80; i++) {
            due.is("count(14)", x.count(14), i);
            x.put('t');
        }
        due.is("count(14)", x.count(14), 80);
        x.put('t');
        due.is("count(14)", x.count(14), 80);
        x.wipe();
        due.is("count(14)", x.count(14), 0);
    }

    /** "15 how many changes can be undone": 0 to 6. */
    private static void promise10ChangesThatCanBeUndone() {
        CopyPlates x = new CopyPlates();
        for (int i = 0; i < 9; i++) {
            due.is("count(15)", x.count(15), Math.min(i, 6));
            x.pass(1);
        }
        x.undo();
        due.is("count(15)", x.count(15), 5);
    }
}
