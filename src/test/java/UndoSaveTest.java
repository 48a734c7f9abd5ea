/** Promises 20 to 22: undo, saving. */
public final class UndoSaveTest {
    private static final Due due = new Due();

    public static void main(String[] args) {
        promise20UndoesEachChange();
        promise20KeepsSixStates();
        promise20RefusedCallsRecordNothing();
        promise20RefusedCallsKeepTheOldest();
        promise20RecordsWhatChangesNothing();
        promise20LeavesPadAndSlots();
        promise20WhatComesBehindAnUndoIsNew();
        promise20KeepsTheLawyersQueue();
        promise20KeepsPlatesAndReplates();
        promise21Save();
        promise21Overwrites();
        promise22Restore();
        promise22LeavesPadAndHistory();
        promise22Refuses();
        due.end();
    }

    private static void same(String what, String before, CopyPlates x) {
        due.is(what, before.equals(Due.stateOf(x)) ? 1 : 0, 1);
    }

    private static void promise20UndoesEachChange() {
        String[] names = {"set", "piece", "plate", "hold", "kill", "pass", "carryOut", "restore"};
        for (int change = 0; change < names.length; change++) {
            CopyPlates x = new CopyPlates();
            x.piece(0, 1, 1, 0);
            x.plate(0);
            x.pass(1);
            x.save(0);
            oneChange(x, 1);
            String before = Due.stateOf(x);
            int answer = oneChange(x, change);
            due.is("20: " + names[change] + " is done", answer >= 0 ? 1 : 0, 1);
            due.is("20: undo", x.undo(), 4);
            same("20: undone " + names[change], before, x);
        }
    }

    private static int oneChange(CopyPlates x, int change) {
        switch (change) {
            case 0:
                return x.set(CopyPlates.ROOM, 77);
            case 1:
                return x.piece(1, 9, 9, 1);
            case 2:
                return x.plate(60);
            case 3:
                return x.hold(0);
            case 4:
                return x.kill(0);
            case 5:
                return x.pass(30);
            case 6:
                Due.putText(x, "t7;k0");
                return x.carryOut();
            default:
                return x.restore(0);
        }
    }

    private static void promise20KeepsSixStates() {
        CopyPlates x = new CopyPlates();
        due.is("20: none", x.undo(), CopyPlates.NOT_POSSIBLE);
        for (int i = 0; i < 20; i++) {
            x.pass(1);
            due.is("20: changes", x.count(15), Math.min(i + 1, 6));
        }
        for (int i = 5; i >= 0; i--) {
            due.is("20: undo", x.undo(), i);
            due.is("20: now", x.count(0), 14 + i);
        }
        due.is("20: no more", x.undo(), CopyPlates.NOT_POSSIBLE);
        due.is("20: now", x.count(0), 14);
        x.pass(9);
        due.is("20: a change again", x.undo(), 0);
        due.is("20: now", x.count(0), 14);
    }

    private static void promise20RefusedCallsRecordNothing() {
        CopyPlates x = new CopyPlates();
        x.pass(1);
        refusedCalls(x);
        due.is("20: changes", x.count(15), 1);
        due.is("20: undo", x.undo(), 0);
        due.is("20: now", x.count(0), 0);
    }

    private static void refusedCalls(CopyPlates x) {
        x.set(0, 0);
        x.piece(5, 0, 0, 0);
        x.plate(600);
        x.hold(24);
        x.kill(24);
        x.pass(0);
        x.carryOut();
        x.restore(0);
        x.restore(2);
    }

    private static void promise20RefusedCallsKeepTheOldest() {
        CopyPlates x = new CopyPlates();
        for (int i = 0; i < 6; i++) {
            x.pass(1);
        }
        for (int i = 0; i < 10; i++) {
            refusedCalls(x);
        }
        for (int i = 5; i >= 0; i--) {
            due.is("20: undo", x.undo(), i);
            refusedCalls(x);
            due.is("20: now", x.count(0), i);
        }
    }

    private static void promise20RecordsWhatChangesNothing() {
        CopyPlates x = new CopyPlates();
        x.set(CopyPlates.EDIT, 4);
        due.is("20: the same value", x.count(15), 1);
        x.save(0);
        due.is("20: saving is no change", x.count(15), 1);
        x.restore(0);
        due.is("20: the same state", x.count(15), 2);
        Due.putText(x, "t0");
        x.carryOut();
        due.is("20: no order is carried out", x.count(15), 3);
    }

    private static void promise20LeavesPadAndSlots() {
        CopyPlates x = new CopyPlates();
        x.piece(0, 1, 1, 0);
        Due.putText(x, "p1");
        x.save(1);
        x.undo();
        due.is("20: the pad stays", x.count(14), 2);
        due.is("20: no piece", x.count(1), 0);
        due.is("20: the slot stays", x.restore(1), 1);
        x.wipe();
        x.undo();
        due.is("20: the pad is not undone", x.count(14), 0);
    }

    private static void promise20WhatComesBehindAnUndoIsNew() {
        CopyPlates x = new CopyPlates();
        Due.putText(x, "+0:4!1L;p9;t10;h0;k0");
        due.is("20: orders", x.carryOut(), 5);
        due.is("20: undo", x.undo(), 0);
        x.piece(1, 50, 2, 1);
        x.plate(9);
        CopyPlates y = new CopyPlates();
        y.piece(1, 50, 2, 1);
        y.plate(9);
        same("20: as if it had not been", Due.stateOf(y), x);
    }

    private static void promise20KeepsTheLawyersQueue() {
        CopyPlates x = new CopyPlates();
        x.piece(4, 4, 1, 1);
        x.piece(2, 4, 1, 1);
        x.piece(0, 4, 1, 1);
        x.pass(1);
        x.save(0);
        String before = Due.stateOf(x);
        for (int i = 0; i < 3; i++) {
            x.undo();
            x.undo();
            x.undo();
            due.is("20: restored", x.restore(0), 3);
            same("20: the lawyer's queue", before, x);
            x.pass(25);
            due.is("20: the second one", x.ofPiece(1, 9), 19);
            due.is("20: undo", x.undo() >= 0 ? 1 : 0, 1);
            same("20: the lawyer's queue", before, x);
        }
    }

    private static void promise20KeepsPlatesAndReplates() {
        CopyPlates x = new CopyPlates();
        x.piece(0, 1, 1, 0);
        x.plate(0);
        x.plate(50);
        x.pass(1);
        due.is("20: replate", x.kill(0), 1);
        String before = Due.stateOf(x);
        x.undo();
        due.is("20: no replate", x.count(9), 0);
        due.is("20: the plate behind", x.ofPlate(1, 0), 50);
        x.kill(0);
        x.plate(3);
        due.is("20: the plates move", x.ofPlate(2, 2), 1);
        due.is("20: the plates move", x.ofPlate(1, 2), 0);
        due.is("20: the plates move", x.ofPlate(3, 2), 0);
        x.undo();
        same("20: the replate", before, x);
    }

    private static void promise21Save() {
        CopyPlates x = new CopyPlates();
        due.is("21: below", x.save(-1), CopyPlates.BAD_VALUE);
        due.is("21: above", x.save(2), CopyPlates.BAD_VALUE);
        due.is("21: far", x.save(Integer.MAX_VALUE), CopyPlates.BAD_VALUE);
        due.is("21: no piece", x.save(0), 0);
        x.piece(0, 12, 1, 1);
        x.piece(1, 12, 1, 0);
        x.set(CopyPlates.LEGAL, 2);
        x.plate(3);
        x.pass(4);
        x.hold(0);
        x.kill(1);
        String before = Due.stateOf(x);
        due.is("21: pieces", x.save(1), 2);
        same("21: saving leaves the night", before, x);
        x.set(CopyPlates.EDIT, 1);
        x.piece(2, 1, 1, 1);
        x.kill(0);
        x.pass(100);
        due.is("21: restored", x.restore(1), 2);
        same("21: all is as it was", before, x);
        due.is("21: the other slot", x.restore(0), 0);
        due.is("21: first value", x.count(11), 10);
    }

    private static void promise21Overwrites() {
        CopyPlates x = new CopyPlates();
        x.piece(0, 12, 1, 1);
        x.plate(7);
        x.save(0);
        x.undo();
        x.undo();
        due.is("21: overwrite by less", x.save(0), 0);
        x.piece(4, 9, 9, 0);
        x.piece(4, 8, 8, 0);
        due.is("21: restored", x.restore(0), 0);
        due.is("21: no plate", x.count(2), 0);
    }

    private static void promise22Restore() {
        CopyPlates x = new CopyPlates();
        x.piece(0, 12, 1, 1);
        x.save(0);
        x.piece(1, 12, 1, 1);
        x.pass(5);
        String late = Due.stateOf(x);
        due.is("22: restored", x.restore(0), 1);
        due.is("22: now", x.count(0), 0);
        x.pass(9);
        due.is("22: the slot keeps it", x.restore(0), 1);
        due.is("22: now", x.count(0), 0);
        x.undo();
        x.undo();
        due.is("22: undo", x.undo(), 3);
        same("22: a change", late, x);
    }

    private static void promise22LeavesPadAndHistory() {
        CopyPlates x = new CopyPlates();
        x.piece(0, 12, 1, 1);
        x.save(1);
        Due.putText(x, "k0");
        x.pass(1);
        x.restore(1);
        due.is("22: the pad stays", x.count(14), 2);
        due.is("22: changes", x.count(15), 3);
    }

    private static void promise22Refuses() {
        CopyPlates x = new CopyPlates();
        due.is("22: below", x.restore(-1), CopyPlates.BAD_VALUE);
        due.is("22: above", x.restore(2), CopyPlates.BAD_VALUE);
        due.is("22: nothing saved", x.restore(0), CopyPlates.NOT_POSSIBLE);
        x.save(0);
        due.is("22: nothing saved in the other", x.restore(1), CopyPlates.NOT_POSSIBLE);
        due.is("22: no change", x.count(15), 0);
        due.is("22: an empty night", x.restore(0), 0);
    }
}
