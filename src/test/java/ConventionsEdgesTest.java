/**
 * The sentences of "Terms" under CONVENTIONS, for each promise that they bind. Each method is the test of one
 * sentence; the comment quotes it.
 */
public final class ConventionsEdgesTest {
    private static final int NO_SUCH = CopyPlates.NO_SUCH;
    private static final int BAD_VALUE = CopyPlates.BAD_VALUE;
    private static final int BAD_TEXT = CopyPlates.BAD_TEXT;
    private static final int TOO_MANY = CopyPlates.TOO_MANY;
    private static final int NOT_POSSIBLE = CopyPlates.NOT_POSSIBLE;
    private static final int NONE = CopyPlates.NONE;
    private static final Due due = new Due();

    private interface Call {
        int on(CopyPlates x);
    }

    private interface Start {
        CopyPlates night();
    }

    public static void main(String[] args) throws Exception {
        Due.runAll(ConventionsEdgesTest.class, due);
    }

    // ---- nights to begin with

    private static CopyPlates with24Pieces() {
        CopyPlates x = new CopyPlates();
        for (int i = 0; i < 24; i++) {
            x.piece(i % 5, 9, 5, 0);
        }
        return x;
    }

    private static CopyPlates with8Plates() {
        CopyPlates x = new CopyPlates();
        for (int i = 0; i < 8; i++) {
            x.plate(10 + i);
        }
        x.pass(5);
        return x;
    }

    /** Pieces 0 at its desk, 1 at the lawyer's, 2 ready and on plate 0, 3 killed, 4 held; plate 1 is due. */
    private static CopyPlates busy() {
        CopyPlates x = new CopyPlates();
        x.piece(0, 50, 5, 0);
        x.piece(1, 4, 5, 1);
        x.piece(2, 4, 5, 0);
        x.save(0);
        x.piece(3, 50, 5, 0);
        x.piece(4, 4, 5, 0);
        x.plate(3);
        x.plate(300);
        x.hold(4);
        x.pass(4);
        x.kill(3);
        Due.putText(x, "p400;k0");
        return x;
    }

    private static CopyPlates inTheLastMinute() {
        CopyPlates x = busy();
        x.pass(595);
        return x;
    }

    private static CopyPlates withFullPad() {
        CopyPlates x = busy();
        x.wipe();
        Due.putText(x, "t1;t1;t1;t1;t1;t1;t1;t1;t1;t1;t1;t1;t1;t1;t1;t1;t1;t1;t1;t1;t1;t1;t1;t1;t1;t1;h");
        return x;
    }

    // ---- "it names its errors in the order in which they are checked, and the first one that applies is returned"

    /** Promise 3: NO_SUCH ahead of BAD_VALUE. */
    private static void promise03NoDeskAheadOfBadValue() {
        CopyPlates x = new CopyPlates();
        due.is("piece(5, 0, 5, 0)", x.piece(5, 0, 5, 0), NO_SUCH);
        due.is("piece(5, 1, 10, 0)", x.piece(5, 1, 10, 0), NO_SUCH);
        due.is("piece(5, 1, 5, 2)", x.piece(5, 1, 5, 2), NO_SUCH);
        due.is("piece(-1, 100, -1, -1)", x.piece(-1, 100, -1, -1), NO_SUCH);
    }

    /** Promise 3: NO_SUCH ahead of TOO_MANY. */
    private static void promise03NoDeskAheadOfTooMany() {
        CopyPlates x = with24Pieces();
        due.is("piece(5, 1, 5, 0)", x.piece(5, 1, 5, 0), NO_SUCH);
        due.is("piece(-1, 1, 5, 0)", x.piece(-1, 1, 5, 0), NO_SUCH);
    }

    /** Promise 3: BAD_VALUE ahead of TOO_MANY. */
    private static void promise03BadValueAheadOfTooMany() {
        CopyPlates x = with24Pieces();
        due.is("piece(0, 0, 5, 0)", x.piece(0, 0, 5, 0), BAD_VALUE);
        due.is("piece(0, 100, 5, 0)", x.piece(0, 100, 5, 0), BAD_VALUE);
        due.is("piece(0, 1, 10, 0)", x.piece(0, 1, 10, 0), BAD_VALUE);
        due.is("piece(0, 1, 5, 2)", x.piece(0, 1, 5, 2), BAD_VALUE);
    }

    /** Promise 4: BAD_VALUE ahead of TOO_MANY. */
    private static void promise04BadValueAheadOfTooMany() {
        CopyPlates x = with8Plates();
        due.is("plate(4)", x.plate(4), BAD_VALUE);
        due.is("plate(600)", x.plate(600), BAD_VALUE);
    }

    /** Promise 4: BAD_VALUE ahead of NOT_POSSIBLE, for the minute of a plate that is made. */
    private static void promise04BadValueAheadOfNotPossible() {
        CopyPlates x = new CopyPlates();
        x.plate(0);
        x.pass(1);
        due.is("plate(0)", x.plate(0), BAD_VALUE);
    }

    /** Promise 4: TOO_MANY ahead of NOT_POSSIBLE. */
    private static void promise04TooManyAheadOfNotPossible() {
        CopyPlates x = with8Plates();
        due.is("plate(10)", x.plate(10), TOO_MANY);
        due.is("plate(17)", x.plate(17), TOO_MANY);
    }

    /** Promise 7: BAD_VALUE ahead of NOT_POSSIBLE, behind the last minute. */
    private static void promise07BadValueAheadOfNotPossible() {
        CopyPlates x = new CopyPlates();
        x.pass(600);
        due.is("pass(0)", x.pass(0), BAD_VALUE);
        due.is("pass(-1)", x.pass(-1), BAD_VALUE);
        due.is("pass(MIN)", x.pass(Integer.MIN_VALUE), BAD_VALUE);
    }

    /** Promise 8: NO_SUCH ahead of BAD_VALUE. */
    private static void promise08NoPieceAheadOfBadValue() {
        CopyPlates x = busy();
        due.is("ofPiece(5, 11)", x.ofPiece(5, 11), NO_SUCH);
        due.is("ofPiece(-1, -1)", x.ofPiece(-1, -1), NO_SUCH);
    }

    /** Promise 9: NO_SUCH ahead of BAD_VALUE. */
    private static void promise09NoPlateAheadOfBadValue() {
        CopyPlates x = busy();
        due.is("ofPlate(2, 5)", x.ofPlate(2, 5), NO_SUCH);
        due.is("ofPlate(-1, -1)", x.ofPlate(-1, -1), NO_SUCH);
    }

    /** Promise 11: NO_SUCH ahead of BAD_VALUE. */
    private static void promise11NoPieceAheadOfBadValue() {
        CopyPlates x = busy();
        due.is("why(5, 2)", x.why(5, 2), NO_SUCH);
        due.is("why(-1, -1)", x.why(-1, -1), NO_SUCH);
    }

    /** Promise 16: BAD_VALUE ahead of TOO_MANY. */
    private static void promise16BadValueAheadOfTooMany() {
        CopyPlates x = withFullPad();
        due.is("put(nothing)", x.put(0), BAD_VALUE);
        due.is("put(32)", x.put(32), BAD_VALUE);
        due.is("put(127)", x.put(127), BAD_VALUE);
        due.is("put(p 0 p)", x.put(0x700070), BAD_VALUE);
    }

    // ---- "NONE (-6) is not an error; it is returned only if no error applies"

    /** Promises 8 and 11: NONE for a piece that is there, NO_SUCH for one that is not. */
    private static void promise08NoneOnlyIfNoErrorApplies() {
        CopyPlates x = busy();
        due.is("ofPiece(0, 9)", x.ofPiece(0, 9), NONE);
        due.is("ofPiece(2, 8)", x.ofPiece(2, 8), NONE);
        due.is("ofPiece(5, 9)", x.ofPiece(5, 9), NO_SUCH);
        due.is("ofPiece(5, 8)", x.ofPiece(5, 8), NO_SUCH);
        due.is("why(2, 1)", x.why(2, 1), NONE);
        due.is("why(5, 1)", x.why(5, 1), NO_SUCH);
    }

    /** Promise 13: NOT_POSSIBLE for a killed piece whose time would be above 2000. */
    private static void promise13NoneOnlyIfNoErrorApplies() {
        CopyPlates x = new CopyPlates();
        x.set(CopyPlates.EDIT, 1);
        for (int i = 0; i < 22; i++) {
            x.piece(0, 99, 5, 0);
        }
        due.is("readyIn(21)", x.readyIn(21), NONE);
        due.is("readyIn(22)", x.readyIn(22), NO_SUCH);
        x.kill(21);
        due.is("readyIn(21), killed", x.readyIn(21), NOT_POSSIBLE);
    }

    /** Promise 14: NOT_POSSIBLE if no plate is due, also where no ROOM would do. */
    private static void promise14NoneOnlyIfNoErrorApplies() {
        CopyPlates x = new CopyPlates();
        x.set(CopyPlates.EDIT, 20);
        for (int i = 0; i < 5; i++) {
            x.piece(i, 99, 5, 0);
        }
        x.pass(5);
        due.is("leastRoom() without a plate", x.leastRoom(), NOT_POSSIBLE);
        x.plate(5);
        due.is("leastRoom() with a plate", x.leastRoom(), NONE);
        x.pass(1);
        due.is("leastRoom() behind the plate", x.leastRoom(), NOT_POSSIBLE);
    }

    // ---- "Everything is numbered from 0. Sets of pieces are bit masks."

    /** Promises 3 and 4: the first piece and the first plate are 0. */
    private static void promise03NumbersBeginWith0() {
        CopyPlates x = new CopyPlates();
        due.is("piece", x.piece(0, 1, 5, 0), 0);
        due.is("plate", x.plate(0), 0);
        due.is("ofPiece(0, 1)", x.ofPiece(0, 1), 1);
        due.is("ofPlate(0, 0)", x.ofPlate(0, 0), 0);
    }

    /** Promises 9, 12 and 15: piece 0 is the lowest bit of a set. */
    private static void promise12Piece0IsTheLowestBit() {
        CopyPlates x = new CopyPlates();
        x.piece(0, 1, 5, 0);
        x.plate(0);
        due.is("nextPlate()", x.nextPlate(), 1);
        x.pass(1);
        due.is("plateNow()", x.plateNow(), 1);
        due.is("ofPlate(0, 3)", x.ofPlate(0, 3), 1);
    }

    /** Promises 9, 12 and 15: piece 23 is the bit 23 of a set. */
    private static void promise12Piece23IsTheBit23() {
        CopyPlates x = with24Pieces();
        for (int i = 0; i < 23; i++) {
            x.hold(i);
        }
        x.plate(30);
        due.is("nextPlate()", x.nextPlate(), 1 << 23);
        x.pass(31);
        due.is("plateNow()", x.plateNow(), 1 << 23);
        due.is("ofPlate(0, 3)", x.ofPlate(0, 3), 1 << 23);
    }

    /** Promises 9, 12 and 15: a set has the bits of all 24 pieces. */
    private static void promise12AllPiecesAreTheBits0To23() {
        CopyPlates x = with24Pieces();
        x.set(CopyPlates.ROOM, 24 * 9);
        x.plate(30);
        due.is("nextPlate()", x.nextPlate(), (1 << 24) - 1);
        x.pass(31);
        due.is("plateNow()", x.plateNow(), (1 << 24) - 1);
        due.is("ofPlate(0, 3)", x.ofPlate(0, 3), (1 << 24) - 1);
    }

    /** Promise 8: the plates 0 and 7 are the bits 0 and 7 of a piece's set. */
    private static void promise08Plates0And7AreTheBits0And7() {
        CopyPlates x = new CopyPlates();
        x.piece(0, 1, 5, 0);
        for (int i = 0; i < 8; i++) {
            x.plate(i);
        }
        x.pass(1);
        due.is("ofPiece(0, 10)", x.ofPiece(0, 10), 1);
        x.hold(0);
        x.pass(6);
        x.hold(0);
        x.pass(1);
        due.is("ofPiece(0, 10)", x.ofPiece(0, 10), 1 + 128);
    }

    // ---- "A call that returns an error changes nothing."

    /**
     * Of two equal nights one gets the call that is refused. Then both are compared: what can be asked, the pad,
     * each state of the history, the slots, and what the pad carries out.
     */
    private static void changesNothing(String call, Start start, Call refused, int error) {
        CopyPlates x = start.night();
        CopyPlates y = start.night();
        due.is(call, refused.on(x), error);
        due.same(call + ", the night behind it", Due.stateOf(x), Due.stateOf(y));
        due.is(call + ", then count(14)", x.count(14), y.count(14));
        due.is(call + ", then fault()", x.fault(), y.fault());
        due.is(call + ", then count(15)", x.count(15), y.count(15));
        for (int i = 0; i <= 6; i++) {
            due.is(call + ", then undo()", x.undo(), y.undo());
            due.same(call + ", the night behind undo()", Due.countsOf(x), Due.countsOf(y));
        }
        for (int slot = 0; slot <= 1; slot++) {
            due.is(call + ", then restore(" + slot + ")", x.restore(slot), y.restore(slot));
            due.same(call + ", the night behind restore", Due.countsOf(x), Due.countsOf(y));
        }
        due.is(call + ", then carryOut()", x.carryOut(), y.carryOut());
        due.same(call + ", the night behind carryOut()", Due.countsOf(x), Due.countsOf(y));
    }

    private static void changesNothing(String call, Call refused, int error) {
        changesNothing(call, ConventionsEdgesTest::busy, refused, error);
    }

    /** Promise 2. */
    private static void promise02RefusedSetChangesNothing() {
        changesNothing("set(4, 10)", x -> x.set(4, 10), BAD_VALUE);
        changesNothing("set(-1, 10)", x -> x.set(-1, 10), BAD_VALUE);
        changesNothing("set(EDIT, 0)", x -> x.set(CopyPlates.EDIT, 0), BAD_VALUE);
        changesNothing("set(ROOM, 401)", x -> x.set(CopyPlates.ROOM, 401), BAD_VALUE);
    }

    /** Promise 3. */
    private static void promise03RefusedPieceChangesNothing() {
        changesNothing("piece(5, ..)", x -> x.piece(5, 9, 5, 0), NO_SUCH);
        changesNothing("piece(.., 100, ..)", x -> x.piece(0, 100, 5, 0), BAD_VALUE);
        changesNothing("25th piece", ConventionsEdgesTest::with24Pieces, x -> x.piece(0, 9, 5, 0), TOO_MANY);
    }

    /** Promise 4. */
    private static void promise04RefusedPlateChangesNothing() {
        changesNothing("plate(600)", x -> x.plate(600), BAD_VALUE);
        changesNothing("plate(3)", x -> x.plate(3), BAD_VALUE);
        changesNothing("plate(300)", x -> x.plate(300), NOT_POSSIBLE);
        changesNothing("9th plate", ConventionsEdgesTest::with8Plates, x -> x.plate(100), TOO_MANY);
    }

    /** Promise 5. */
    private static void promise05RefusedHoldChangesNothing() {
        changesNothing("hold(5)", x -> x.hold(5), NO_SUCH);
        changesNothing("hold(3)", x -> x.hold(3), NOT_POSSIBLE);
    }

    /** Promise 6. */
    private static void promise06RefusedKillChangesNothing() {
        changesNothing("kill(5)", x -> x.kill(5), NO_SUCH);
        changesNothing("kill(3)", x -> x.kill(3), NOT_POSSIBLE);
    }

    /** Promise 6: a second kill() tells no replate, although the piece is on the latest plate. */
    private static void promise06SecondKillTellsNoReplate() {
        CopyPlates x = busy();
        due.is("kill(2)", x.kill(2), 1);
        x.pass(20);
        x.hold(4);
        due.is("plates", x.count(2), 3);
        due.is("kill(2) again", x.kill(2), NOT_POSSIBLE);
        due.is("plates", x.count(2), 3);
    }

    /** Promise 7. */
    private static void promise07RefusedPassChangesNothing() {
        changesNothing("pass(0)", x -> x.pass(0), BAD_VALUE);
        changesNothing("pass(-1)", x -> x.pass(-1), BAD_VALUE);
        changesNothing("pass(597)", x -> x.pass(597), NOT_POSSIBLE);
        changesNothing("pass(2)", ConventionsEdgesTest::inTheLastMinute, x -> x.pass(2), NOT_POSSIBLE);
    }

    /** Promises 8 to 10. */
    private static void promise08RefusedQuestionsChangeNothing() {
        changesNothing("ofPiece(5, 0)", x -> x.ofPiece(5, 0), NO_SUCH);
        changesNothing("ofPiece(0, 11)", x -> x.ofPiece(0, 11), BAD_VALUE);
        changesNothing("ofPlate(2, 0)", x -> x.ofPlate(2, 0), NO_SUCH);
        changesNothing("ofPlate(0, 5)", x -> x.ofPlate(0, 5), BAD_VALUE);
        changesNothing("count(16)", x -> x.count(16), BAD_VALUE);
    }

    /** Promises 11 to 15. */
    private static void promise11RefusedWhatIfsChangeNothing() {
        changesNothing("why(5, 0)", x -> x.why(5, 0), NO_SUCH);
        changesNothing("why(0, 2)", x -> x.why(0, 2), BAD_VALUE);
        changesNothing("readyIn(5)", x -> x.readyIn(5), NO_SUCH);
        changesNothing("readyIn(3)", x -> x.readyIn(3), NOT_POSSIBLE);
        changesNothing("leastRoom()", ConventionsEdgesTest::with24Pieces, x -> x.leastRoom(), NOT_POSSIBLE);
        changesNothing("nextPlate()", ConventionsEdgesTest::with24Pieces, x -> x.nextPlate(), NOT_POSSIBLE);
    }

    /** Promise 16. */
    private static void promise16RefusedPutChangesNothing() {
        changesNothing("put(nothing)", x -> x.put(0), BAD_VALUE);
        changesNothing("put(32)", x -> x.put(32), BAD_VALUE);
        changesNothing("put(127)", x -> x.put(127), BAD_VALUE);
        changesNothing("put(; 0 p)", x -> x.put(0x3B0070), BAD_VALUE);
        changesNothing("put(;, 32)", x -> x.put(0x3B20), BAD_VALUE);
        changesNothing("put(32, ;)", x -> x.put(0x203B), BAD_VALUE);
        changesNothing("81 characters", ConventionsEdgesTest::withFullPad, x -> x.put(Due.pack("22")), TOO_MANY);
    }

    /** Promise 16: of what was refused no character is on the pad, not even those that had room there. */
    private static void promise16RefusedPutLeavesNoCharacter() {
        CopyPlates x = withFullPad();
        due.is("put(12)", x.put(Due.pack("12")), TOO_MANY);
        due.is("put(0)", x.put('0'), 80);
        due.is("carryOut()", x.carryOut(), 27);
        due.is("ofPiece(0, 5)", x.ofPiece(0, 5), 1);
        due.is("ofPiece(1, 5)", x.ofPiece(1, 5), 0);
    }

    /** Promise 19: "BAD_TEXT if the pad has a fault (then it stays)." */
    private static void promise19RefusedCarryOutChangesNothing() {
        changesNothing("carryOut()", ConventionsEdgesTest::withFullPad, x -> x.carryOut(), BAD_TEXT);
    }

    /** Promise 20. */
    private static void promise20RefusedUndoChangesNothing() {
        CopyPlates x = busy();
        for (int i = 5; i >= 0; i--) {
            due.is("undo()", x.undo(), i);
        }
        String before = Due.stateOf(x);
        due.is("undo()", x.undo(), NOT_POSSIBLE);
        due.same("the night", Due.stateOf(x), before);
        due.is("undo()", x.undo(), NOT_POSSIBLE);
        due.same("the night", Due.stateOf(x), before);
        due.is("count(15)", x.count(15), 0);
        due.is("count(14)", x.count(14), 7);
        due.is("restore(0)", x.restore(0), 3);
    }

    /** Promise 21. */
    private static void promise21RefusedSaveChangesNothing() {
        changesNothing("save(2)", x -> x.save(2), BAD_VALUE);
        changesNothing("save(-1)", x -> x.save(-1), BAD_VALUE);
    }

    /** Promise 22. */
    private static void promise22RefusedRestoreChangesNothing() {
        changesNothing("restore(2)", x -> x.restore(2), BAD_VALUE);
        changesNothing("restore(-1)", x -> x.restore(-1), BAD_VALUE);
        changesNothing("restore(1)", x -> x.restore(1), NOT_POSSIBLE);
    }
}
