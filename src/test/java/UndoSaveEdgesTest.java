/** Promises 20 to 22. Each method is the test of one sentence; the comment quotes it. */
public final class UndoSaveEdgesTest {
    private static final int BAD_VALUE = CopyPlates.BAD_VALUE;
    private static final int NOT_POSSIBLE = CopyPlates.NOT_POSSIBLE;
    private static final int NONE = CopyPlates.NONE;
    private static final Due due = new Due();

    public static void main(String[] args) throws Exception {
        Due.runAll(UndoSaveEdgesTest.class, due);
    }

    private interface Call {
        int on(CopyPlates x);
    }

    /** Pieces 0 and 1 are on plate 0, 2 is at the lawyer's, 3 at its desk; plate 1 is due; slot 0 has no piece. */
    private static CopyPlates night() {
        CopyPlates x = new CopyPlates();
        x.save(0);
        x.piece(0, 4, 5, 0);
        x.piece(1, 4, 6, 0);
        x.piece(2, 4, 7, 1);
        x.piece(3, 50, 8, 0);
        x.plate(0);
        x.plate(100);
        x.pass(1);
        return x;
    }

    // ---- promise 20

    /** "Undoes the latest change: everything .. is as it was before it", and it was recorded as one change. */
    private static void undone(String name, Call change) {
        CopyPlates x = night();
        x.undo();
        x.undo();
        x.undo();
        x.plate(0);
        x.pass(1);
        String before = Due.stateOf(x);
        int changes = x.count(15);
        due.is(name + " is done", change.on(x) >= 0 ? 1 : 0, 1);
        due.is(name + ", then count(15)", x.count(15), changes + 1);
        due.is(name + ", then undo()", x.undo(), changes);
        due.same(name + ", then undo()", Due.stateOf(x), before);
    }

    /** "each method that is a change .. records the state before it": set. */
    private static void promise20UndoesSet() {
        undone("set(EDIT, 9)", x -> x.set(CopyPlates.EDIT, 9));
        undone("set(LEGAL, 9)", x -> x.set(CopyPlates.LEGAL, 9));
        undone("set(ROOM, 19)", x -> x.set(CopyPlates.ROOM, 19));
        undone("set(DELAY, 9)", x -> x.set(CopyPlates.DELAY, 9));
    }

    /** "each method that is a change .. records the state before it": piece. */
    private static void promise20UndoesPiece() {
        undone("piece(0, 9, 5, 1)", x -> x.piece(0, 9, 5, 1));
    }

    /** "each method that is a change .. records the state before it": plate. */
    private static void promise20UndoesPlate() {
        undone("plate(50)", x -> x.plate(50));
    }

    /** "each method that is a change .. records the state before it": hold. */
    private static void promise20UndoesHold() {
        undone("hold(0)", x -> x.hold(0));
        undone("hold(2)", x -> x.hold(2));
    }

    /** "each method that is a change .. records the state before it": kill, in each state, with its replate. */
    private static void promise20UndoesKill() {
        undone("kill(0)", x -> x.kill(0));
        undone("kill(2)", x -> x.kill(2));
        undone("kill(3)", x -> x.kill(3));
    }

    /** "each method that is a change .. records the state before it": pass, with its plates. */
    private static void promise20UndoesPass() {
        undone("pass(1)", x -> x.pass(1));
        undone("pass(599)", x -> x.pass(599));
    }

    /** "each method that is a change .. records the state before it": carryOut. */
    private static void promise20UndoesCarryOut() {
        undone("carryOut()", x -> {
            Due.putText(x, "t7;k0;h1;+0:1!1;p99");
            return x.carryOut();
        });
    }

    /** "each method that is a change .. records the state before it": restore. */
    private static void promise20UndoesRestore() {
        undone("restore(0)", x -> x.restore(0));
    }

    /** "NOT_POSSIBLE if there is none": at first, and when all are undone. */
    private static void promise20NoChange() {
        CopyPlates x = new CopyPlates();
        due.is("at first", x.undo(), NOT_POSSIBLE);
        x.pass(1);
        due.is("the only one", x.undo(), 0);
        due.is("behind it", x.undo(), NOT_POSSIBLE);
    }

    /** "Returns how many changes can be undone then": 5 to 0. */
    private static void promise20ReturnsHowManyThen() {
        CopyPlates x = new CopyPlates();
        for (int i = 0; i < 6; i++) {
            x.pass(1);
        }
        for (int i = 5; i >= 0; i--) {
            due.is("undo()", x.undo(), i);
            due.is("count(15)", x.count(15), i);
            due.is("count(0)", x.count(0), i);
        }
    }

    /** "A history of at most 6 states is kept": six are. */
    private static void promise20SixStates() {
        CopyPlates x = new CopyPlates();
        for (int i = 0; i < 6; i++) {
            x.piece(0, 1 + i, 5, 0);
        }
        for (int i = 0; i < 6; i++) {
            x.undo();
        }
        due.is("count(1)", x.count(1), 0);
        due.is("undo()", x.undo(), NOT_POSSIBLE);
    }

    /** "when one more is recorded, the oldest one is dropped": of seven the first is not undone. */
    private static void promise20OldestOneIsDropped() {
        CopyPlates x = new CopyPlates();
        for (int i = 0; i < 7; i++) {
            x.piece(0, 1 + i, 5, 0);
        }
        due.is("count(15)", x.count(15), 6);
        for (int i = 5; i >= 0; i--) {
            due.is("undo()", x.undo(), i);
            due.is("count(1)", x.count(1), i + 1);
        }
        due.is("undo()", x.undo(), NOT_POSSIBLE);
        due.is("count(1)", x.count(1), 1);
    }

    /** "the oldest one is dropped": however often. */
    private static void promise20OldestOnesOfManyAreDropped() {
        CopyPlates x = new CopyPlates();
        for (int i = 0; i < 100; i++) {
            x.pass(1);
        }
        for (int i = 5; i >= 0; i--) {
            due.is("undo()", x.undo(), i);
            due.is("count(0)", x.count(0), 94 + i);
        }
        due.is("undo()", x.undo(), NOT_POSSIBLE);
    }

    /** "the oldest one is dropped": none of them, if there is room by an undo. */
    private static void promise20RoomByAnUndo() {
        CopyPlates x = new CopyPlates();
        for (int i = 0; i < 6; i++) {
            x.pass(1);
        }
        x.undo();
        x.undo();
        x.pass(10);
        x.pass(10);
        int[] minutes = {14, 4, 3, 2, 1, 0};
        for (int i = 0; i < 6; i++) {
            due.is("undo()", x.undo(), 5 - i);
            due.is("count(0)", x.count(0), minutes[i]);
        }
    }

    /** "Undoes the latest change": an undo is no change, so it is not undone by the next one. */
    private static void promise20UndoIsNoChange() {
        CopyPlates x = new CopyPlates();
        x.pass(1);
        x.pass(1);
        x.undo();
        due.is("count(15)", x.count(15), 1);
        due.is("undo()", x.undo(), 0);
        due.is("count(0)", x.count(0), 0);
    }

    /** "(also if nothing is different then)": set to the same value, restore of the same state, no order. */
    private static void promise20RecordsIfNothingIsDifferent() {
        CopyPlates x = new CopyPlates();
        x.set(CopyPlates.DELAY, 5);
        due.is("set", x.count(15), 1);
        x.save(0);
        x.restore(0);
        due.is("restore", x.count(15), 2);
        Due.putText(x, "t0");
        x.carryOut();
        due.is("carryOut", x.count(15), 3);
    }

    /** "each method that is a change, and returns no error": no state is dropped for one that returns an error. */
    private static void promise20ErrorsRecordNothing() {
        CopyPlates x = new CopyPlates();
        for (int i = 0; i < 6; i++) {
            x.pass(1);
        }
        int[] errors = {x.set(4, 1), x.piece(5, 1, 1, 1), x.plate(0), x.hold(0), x.kill(0), x.pass(0), x.carryOut(),
            x.restore(0)};
        for (int error : errors) {
            due.is("an error", error < 0 ? 1 : 0, 1);
        }
        due.is("count(15)", x.count(15), 6);
        for (int i = 5; i >= 0; i--) {
            x.undo();
            due.is("count(0)", x.count(0), i);
        }
    }

    /** "each method that is a change": put, wipe, save, fault, undo and the questions are none. */
    private static void promise20OtherMethodsRecordNothing() {
        CopyPlates x = night();
        x.undo();
        int changes = x.count(15);
        x.put('t');
        x.fault();
        x.wipe();
        x.save(1);
        x.ofPiece(0, 0);
        x.ofPlate(0, 0);
        x.why(0, 0);
        x.plateNow();
        x.readyIn(0);
        x.leastRoom();
        x.nextPlate();
        due.is("count(15)", x.count(15), changes);
    }

    /** "everything except the pad": what was put since stays, and what was wiped or carried out stays away. */
    private static void promise20LeavesThePad() {
        CopyPlates x = new CopyPlates();
        x.pass(1);
        Due.putText(x, "p9");
        x.undo();
        due.is("count(14)", x.count(14), 2);
        due.is("carryOut()", x.carryOut(), 1);
        x.undo();
        due.is("count(14)", x.count(14), 0);
        due.is("count(2)", x.count(2), 0);
    }

    /** "everything except .. the slots": what was saved since stays saved. */
    private static void promise20LeavesTheSlots() {
        CopyPlates x = new CopyPlates();
        x.piece(0, 1, 5, 0);
        x.save(1);
        x.undo();
        due.is("count(1)", x.count(1), 0);
        due.is("restore(1)", x.restore(1), 1);
    }

    /** "everything .. is as it was before it": a piece of a change that was undone leaves no trace in the next one. */
    private static void promise20PieceOfAnUndoneChange() {
        CopyPlates x = new CopyPlates();
        Due.putText(x, "+0:4!9L;p5;t15;h0;k0");
        x.carryOut();
        x.undo();
        x.piece(3, 7, 2, 0);
        int[] facts = {3, 7, 2, 0, 0, 0, 0, 0, 0, NONE, 0};
        for (int what = 0; what <= 10; what++) {
            due.is("ofPiece(0, " + what + ")", x.ofPiece(0, what), facts[what]);
        }
    }

    /** "everything .. is as it was before it": a plate of a change that was undone leaves no trace. */
    private static void promise20PlateOfAnUndoneChange() {
        CopyPlates x = new CopyPlates();
        Due.putText(x, "+0:1!1;p0;t1;k0;t6");
        due.is("carryOut()", x.carryOut(), 5);
        x.undo();
        x.plate(0);
        x.plate(6);
        int[][] facts = {{0, 0, 0, 0, 0}, {6, 0, 0, 0, 0}};
        for (int plate = 0; plate < 2; plate++) {
            for (int what = 0; what <= 4; what++) {
                due.is("ofPlate(" + plate + ", " + what + ")", x.ofPlate(plate, what), facts[plate][what]);
            }
        }
    }

    /** "everything .. is as it was before it": the order of the lawyer's queue, and the work on its pieces. */
    private static void promise20LawyersQueue() {
        CopyPlates x = new CopyPlates();
        x.piece(4, 4, 5, 1);
        x.piece(0, 8, 5, 1);
        x.piece(2, 4, 5, 1);
        x.pass(3);
        String before = Due.stateOf(x);
        x.pass(40);
        x.undo();
        due.same("the night", Due.stateOf(x), before);
        due.is("first", x.readyIn(2), 7);
        due.is("second", x.readyIn(0), 17);
        due.is("third", x.readyIn(1), 27);
    }

    /** "An order of a text records nothing by itself." */
    private static void promise20OrdersRecordNothing() {
        CopyPlates x = new CopyPlates();
        x.pass(1);
        Due.putText(x, "t1;t1;t1;t1;t1;t1;t1;t1");
        x.carryOut();
        due.is("count(15)", x.count(15), 2);
        x.undo();
        due.is("count(0)", x.count(0), 1);
        x.undo();
        due.is("count(0)", x.count(0), 0);
    }

    // ---- promise 21

    /** "slot: 0 or 1"; "BAD_VALUE if there is no such slot". */
    private static void promise21Slots() {
        CopyPlates x = new CopyPlates();
        due.is("save(-1)", x.save(-1), BAD_VALUE);
        due.is("save(2)", x.save(2), BAD_VALUE);
        due.is("save(MIN)", x.save(Integer.MIN_VALUE), BAD_VALUE);
        due.is("save(MAX)", x.save(Integer.MAX_VALUE), BAD_VALUE);
        due.is("save(0)", x.save(0), 0);
        due.is("save(1)", x.save(1), 0);
    }

    /** "Returns how many pieces there are": 0 to 24, killed ones, too. */
    private static void promise21ReturnsHowManyPieces() {
        CopyPlates x = new CopyPlates();
        for (int i = 0; i < 24; i++) {
            due.is("save(1)", x.save(1), i);
            x.piece(0, 1, 5, 0);
        }
        x.kill(5);
        due.is("save(1)", x.save(1), 24);
    }

    /** "Saves everything": settings, the minute, pieces, queues, plates; it leaves the night as it is. */
    private static void promise21SavesEverything() {
        CopyPlates x = night();
        x.set(CopyPlates.LEGAL, 30);
        x.hold(1);
        x.kill(0);
        String before = Due.stateOf(x);
        due.is("save(1)", x.save(1), 4);
        due.same("behind save(1)", Due.stateOf(x), before);
        x.set(CopyPlates.ROOM, 11);
        x.piece(0, 1, 1, 1);
        x.plate(50);
        x.hold(1);
        x.kill(2);
        x.pass(200);
        x.restore(1);
        due.same("behind restore(1)", Due.stateOf(x), before);
    }

    /** "Saves everything": the fullest night, 24 pieces and 8 plates. */
    private static void promise21FullestNight() {
        CopyPlates x = new CopyPlates();
        for (int i = 0; i < 24; i++) {
            x.piece(i % 5, 1 + i, i % 10, i % 2);
        }
        for (int i = 0; i < 8; i++) {
            x.plate(7 * i);
        }
        x.pass(30);
        CopyPlates y = new CopyPlates();
        x.save(0);
        x.pass(500);
        due.is("restore(0)", x.restore(0), 24);
        for (int i = 0; i < 24; i++) {
            y.piece(i % 5, 1 + i, i % 10, i % 2);
        }
        for (int i = 0; i < 8; i++) {
            y.plate(7 * i);
        }
        y.pass(30);
        due.same("the night", Due.stateOf(x), Due.stateOf(y));
    }

    /** "except the pad, the history and the slots": a restore does not bring them back. */
    private static void promise21ExceptThePadAndTheHistory() {
        CopyPlates x = new CopyPlates();
        x.pass(1);
        x.pass(1);
        Due.putText(x, "t1");
        x.save(0);
        x.undo();
        x.wipe();
        x.put('t');
        x.restore(0);
        due.is("count(14)", x.count(14), 1);
        due.is("count(15)", x.count(15), 2);
        x.undo();
        due.is("count(0)", x.count(0), 1);
    }

    /** "except the pad, the history and the slots": save() leaves the pad and the history as they are. */
    private static void promise21LeavesThePadAndTheHistory() {
        CopyPlates x = new CopyPlates();
        x.pass(1);
        Due.putText(x, "t1");
        x.save(0);
        due.is("count(14)", x.count(14), 2);
        due.is("fault()", x.fault(), NONE);
        due.is("count(15)", x.count(15), 1);
        due.is("undo()", x.undo(), 0);
        due.is("count(0)", x.count(0), 0);
    }

    /** "except .. the slots": a slot that is restored brings no other slot back. */
    private static void promise21ExceptTheSlots() {
        CopyPlates x = new CopyPlates();
        x.save(1);
        x.save(0);
        x.piece(0, 1, 5, 0);
        x.save(1);
        x.restore(0);
        due.is("restore(1)", x.restore(1), 1);
    }

    /** "overwrites what was saved there": by more, and by less. */
    private static void promise21Overwrites() {
        CopyPlates x = new CopyPlates();
        x.save(0);
        x.piece(0, 9, 5, 1);
        x.plate(3);
        x.pass(9);
        x.save(0);
        x.pass(9);
        due.is("restore(0)", x.restore(0), 1);
        due.is("count(0)", x.count(0), 9);
        for (int i = 0; i < 5; i++) {
            x.undo();
        }
        due.is("save(0)", x.save(0), 0);
        x.piece(0, 9, 5, 1);
        due.is("restore(0)", x.restore(0), 0);
        due.is("count(2)", x.count(2), 0);
        due.is("count(0)", x.count(0), 0);
    }

    /** The slots are apart. */
    private static void promise21SlotsAreApart() {
        CopyPlates x = new CopyPlates();
        x.pass(1);
        x.save(0);
        x.pass(1);
        x.save(1);
        x.pass(1);
        x.restore(0);
        due.is("slot 0", x.count(0), 1);
        x.restore(1);
        due.is("slot 1", x.count(0), 2);
    }

    /** save() is no change. */
    private static void promise21IsNoChange() {
        CopyPlates x = new CopyPlates();
        x.save(0);
        due.is("count(15)", x.count(15), 0);
        x.pass(1);
        x.save(0);
        due.is("undo()", x.undo(), 0);
        due.is("count(0)", x.count(0), 0);
    }

    // ---- promise 22

    /** "slot: 0 or 1"; "BAD_VALUE if there is no such slot". */
    private static void promise22Slots() {
        CopyPlates x = new CopyPlates();
        x.save(0);
        x.save(1);
        due.is("restore(-1)", x.restore(-1), BAD_VALUE);
        due.is("restore(2)", x.restore(2), BAD_VALUE);
        due.is("restore(MIN)", x.restore(Integer.MIN_VALUE), BAD_VALUE);
        due.is("restore(MAX)", x.restore(Integer.MAX_VALUE), BAD_VALUE);
        due.is("restore(0)", x.restore(0), 0);
        due.is("restore(1)", x.restore(1), 0);
    }

    /** "NOT_POSSIBLE if nothing was saved in it": each slot by itself. */
    private static void promise22NothingWasSaved() {
        CopyPlates x = new CopyPlates();
        due.is("restore(0)", x.restore(0), NOT_POSSIBLE);
        due.is("restore(1)", x.restore(1), NOT_POSSIBLE);
        x.save(1);
        due.is("restore(0)", x.restore(0), NOT_POSSIBLE);
        due.is("restore(1)", x.restore(1), 0);
        CopyPlates y = new CopyPlates();
        y.save(0);
        due.is("restore(1)", y.restore(1), NOT_POSSIBLE);
        due.is("restore(0)", y.restore(0), 0);
    }

    /** "Restores what was saved last": a night that was saved without a piece, too. */
    private static void promise22SavedLast() {
        CopyPlates x = new CopyPlates();
        x.piece(0, 1, 5, 0);
        x.save(0);
        x.piece(0, 1, 5, 0);
        x.save(0);
        x.piece(0, 1, 5, 0);
        due.is("restore(0)", x.restore(0), 2);
        CopyPlates y = new CopyPlates();
        y.save(0);
        y.piece(0, 1, 5, 0);
        due.is("restore(0)", y.restore(0), 0);
        due.is("ofPiece(0, 0)", y.ofPiece(0, 0), CopyPlates.NO_SUCH);
    }

    /** "in a slot, which keeps it": what comes behind a restore is not in the slot. */
    private static void promise22SlotKeepsIt() {
        CopyPlates x = night();
        String before = Due.stateOf(x);
        x.save(1);
        for (int i = 0; i < 2; i++) {
            x.kill(0);
            x.hold(2);
            x.piece(1, 1, 1, 1);
            x.set(CopyPlates.EDIT, 7);
            x.pass(50);
            due.is("restore(1)", x.restore(1), 4);
            due.same("the night", Due.stateOf(x), before);
        }
    }

    /** "This is a change", undone as any other; the slot keeps what it has. */
    private static void promise22IsAChange() {
        CopyPlates x = new CopyPlates();
        x.save(0);
        x.piece(0, 9, 5, 0);
        x.pass(1);
        String before = Due.stateOf(x);
        due.is("restore(0)", x.restore(0), 0);
        due.is("count(15)", x.count(15), 3);
        due.is("undo()", x.undo(), 2);
        due.same("the night", Due.stateOf(x), before);
        due.is("restore(0)", x.restore(0), 0);
    }

    /** "Returns how many pieces there are then": up to 24, killed ones, too. */
    private static void promise22ReturnsHowManyPiecesThen() {
        CopyPlates x = new CopyPlates();
        for (int i = 0; i < 24; i++) {
            x.piece(0, 1, 5, 0);
        }
        x.kill(9);
        x.save(0);
        x.undo();
        x.undo();
        due.is("count(1)", x.count(1), 23);
        due.is("restore(0)", x.restore(0), 24);
        due.is("count(1)", x.count(1), 24);
    }

    /** A restore leaves the pad and the other states of the history. */
    private static void promise22LeavesThePadAndTheHistory() {
        CopyPlates x = new CopyPlates();
        x.pass(1);
        x.save(0);
        x.pass(1);
        Due.putText(x, "t1");
        x.restore(0);
        due.is("count(14)", x.count(14), 2);
        due.is("undo()", x.undo(), 2);
        due.is("count(0)", x.count(0), 2);
        due.is("undo()", x.undo(), 1);
        due.is("count(0)", x.count(0), 1);
    }

    /** A night that was restored goes on as the one that was saved. */
    private static void promise22GoesOnAsTheSavedOne() {
        CopyPlates x = night();
        CopyPlates y = night();
        x.save(0);
        x.pass(300);
        x.restore(0);
        x.pass(120);
        y.pass(120);
        due.same("the night", Due.stateOf(x), Due.stateOf(y));
    }
}
