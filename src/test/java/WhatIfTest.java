/** Promises 11 to 15: what if; nothing changes. */
public final class WhatIfTest {
    private static final Due due = new Due();

    public static void main(String[] args) {
        promise11Reasons();
        promise11FirstReasonCounts();
        promise11NoRoomComesFromTheLastTaken();
        promise11Refuses();
        promise12PlateNow();
        promise13ReadyIn();
        promise13ByTheLawyersQueue();
        promise13BeyondTheNight();
        promise13MostMinutes();
        promise13Refuses();
        promise14LeastRoom();
        promise14Edges();
        promise15NextPlate();
        promises11To15ChangeNothing();
        promises11To15OfAFullNight();
        due.end();
    }

    private static void why(CopyPlates x, int piece, int reason, int cause) {
        due.is("11: why(" + piece + ", 0)", x.why(piece, 0), reason);
        due.is("11: why(" + piece + ", 1)", x.why(piece, 1), cause);
    }

    private static void promise11Reasons() {
        CopyPlates x = new CopyPlates();
        x.piece(0, 4, 5, 1);
        x.piece(0, 4, 5, 1);
        x.piece(1, 99, 5, 0);
        x.piece(1, 4, 5, 0);
        x.piece(2, 4, 5, 0);
        x.piece(2, 4, 5, 0);
        x.piece(2, 4, 5, 0);
        x.pass(3);
        x.hold(5);
        x.kill(6);
        why(x, 0, 4, 0);
        why(x, 1, 4, 0);
        why(x, 2, 3, 2);
        why(x, 3, 3, 2);
        why(x, 4, 0, CopyPlates.NONE);
        why(x, 5, 2, CopyPlates.NONE);
        why(x, 6, 1, CopyPlates.NONE);
        x.kill(0);
        x.kill(2);
        why(x, 1, 4, 1);
        why(x, 3, 3, 3);
        CopyPlates y = new CopyPlates();
        y.piece(0, 4, 5, 0);
        y.piece(0, 4, 5, 0);
        why(y, 0, 3, 0);
        why(y, 1, 3, 0);
    }

    private static void promise11FirstReasonCounts() {
        CopyPlates x = new CopyPlates();
        x.piece(0, 4, 5, 1);
        x.hold(0);
        why(x, 0, 2, CopyPlates.NONE);
        x.pass(1);
        why(x, 0, 2, CopyPlates.NONE);
        x.kill(0);
        why(x, 0, 1, CopyPlates.NONE);
        CopyPlates y = new CopyPlates();
        y.set(CopyPlates.ROOM, 10);
        y.piece(0, 11, 5, 0);
        y.pass(3);
        y.hold(0);
        why(y, 0, 2, CopyPlates.NONE);
    }

    private static void promise11NoRoomComesFromTheLastTaken() {
        CopyPlates x = new CopyPlates();
        x.set(CopyPlates.ROOM, 30);
        x.set(CopyPlates.EDIT, 20);
        x.piece(0, 31, 9, 0);
        x.piece(1, 10, 8, 0);
        x.piece(2, 10, 8, 0);
        x.piece(3, 11, 7, 0);
        x.piece(4, 10, 6, 0);
        x.piece(0, 1, 0, 0);
        x.pass(3);
        due.is("11: taken", x.plateNow(), 2 + 4 + 16);
        why(x, 0, 5, CopyPlates.NONE);
        why(x, 1, 0, CopyPlates.NONE);
        why(x, 3, 5, 2);
        why(x, 5, 5, 4);
        x.hold(4);
        why(x, 5, 0, CopyPlates.NONE);
        x.hold(1);
        why(x, 3, 0, CopyPlates.NONE);
        theLastTakenIsTheOneOfLeastRank();
    }

    private static void theLastTakenIsTheOneOfLeastRank() {
        CopyPlates x = new CopyPlates();
        x.set(CopyPlates.ROOM, 10);
        x.piece(0, 4, 5, 0);
        x.piece(1, 4, 6, 0);
        x.piece(2, 4, 4, 0);
        x.piece(3, 4, 4, 0);
        x.piece(4, 2, 4, 0);
        x.pass(1);
        due.is("11: taken", x.plateNow(), 1 + 2 + 16);
        why(x, 2, 5, 0);
        why(x, 3, 5, 0);
        why(x, 4, 0, CopyPlates.NONE);
        x.hold(0);
        due.is("11: taken", x.plateNow(), 2 + 4 + 16);
        why(x, 3, 5, 2);
    }

    private static void promise11Refuses() {
        CopyPlates x = new CopyPlates();
        due.is("11: no piece", x.why(0, 0), CopyPlates.NO_SUCH);
        x.piece(0, 4, 5, 1);
        due.is("11: below", x.why(-1, 0), CopyPlates.NO_SUCH);
        due.is("11: above", x.why(1, 1), CopyPlates.NO_SUCH);
        due.is("11: piece ahead of what", x.why(1, 2), CopyPlates.NO_SUCH);
        due.is("11: what below", x.why(0, -1), CopyPlates.BAD_VALUE);
        due.is("11: what above", x.why(0, 2), CopyPlates.BAD_VALUE);
    }

    private static void promise12PlateNow() {
        CopyPlates x = new CopyPlates();
        due.is("12: no piece", x.plateNow(), 0);
        x.set(CopyPlates.EDIT, 20);
        x.set(CopyPlates.ROOM, 40);
        x.piece(0, 30, 1, 0);
        x.piece(1, 20, 5, 0);
        x.piece(2, 20, 5, 0);
        x.piece(3, 20, 6, 0);
        due.is("12: none is ready", x.plateNow(), 0);
        x.pass(1);
        due.is("12: by rank, then by number", x.plateNow(), 2 + 8);
        x.hold(1);
        due.is("12: without the held one", x.plateNow(), 4 + 8);
        x.kill(3);
        due.is("12: without the killed one", x.plateNow(), 4);
        x.pass(1);
        due.is("12: no room for the last one", x.plateNow(), 4);
        x.set(CopyPlates.ROOM, 50);
        due.is("12: room for both", x.plateNow(), 1 + 4);
        x.hold(1);
        due.is("12: held no more", x.plateNow(), 2 + 4);
        earlierReadyGoesFirst();
        firstPieceOfLikeOnesGoesFirst();
    }

    private static void firstPieceOfLikeOnesGoesFirst() {
        CopyPlates x = new CopyPlates();
        x.set(CopyPlates.ROOM, 10);
        x.piece(0, 4, 5, 0);
        x.piece(1, 4, 5, 0);
        x.piece(2, 4, 5, 0);
        x.pass(1);
        due.is("12: the smaller numbers", x.plateNow(), 1 + 2);
    }

    private static void earlierReadyGoesFirst() {
        CopyPlates x = new CopyPlates();
        x.set(CopyPlates.ROOM, 10);
        x.piece(0, 8, 5, 0);
        x.piece(1, 4, 5, 0);
        x.pass(2);
        due.is("12: the one that was ready earlier", x.plateNow(), 2);
        x.set(CopyPlates.ROOM, 12);
        due.is("12: both", x.plateNow(), 3);
    }

    private static void promise13ReadyIn() {
        CopyPlates x = new CopyPlates();
        x.piece(0, 4, 5, 0);
        x.piece(0, 5, 5, 1);
        x.piece(1, 4, 5, 1);
        due.is("13: one minute", x.readyIn(0), 1);
        due.is("13: behind another, at the desk and at the lawyer's", x.readyIn(1), 20);
        due.is("13: legal", x.readyIn(2), 10);
        x.hold(1);
        due.is("13: a held one takes as long", x.readyIn(1), 20);
        x.pass(4);
        due.is("13: ready", x.readyIn(0), 0);
        due.is("13: less by what passed", x.readyIn(1), 16);
        x.kill(2);
        due.is("13: the lawyer is free", x.readyIn(1), 10);
        due.is("13: killed", x.readyIn(2), CopyPlates.NOT_POSSIBLE);
        x.set(CopyPlates.LEGAL, 60);
        due.is("13: by the setting of now", x.readyIn(1), 60);
    }

    private static void promise13ByTheLawyersQueue() {
        CopyPlates x = new CopyPlates();
        x.piece(4, 4, 5, 1);
        x.piece(2, 4, 5, 1);
        x.piece(0, 4, 5, 1);
        x.pass(1);
        due.is("13: third", x.readyIn(0), 29);
        due.is("13: second", x.readyIn(1), 19);
        due.is("13: first", x.readyIn(2), 9);
    }

    private static void promise13BeyondTheNight() {
        CopyPlates x = new CopyPlates();
        x.piece(0, 9, 5, 1);
        x.plate(599);
        due.is("13: the night", x.pass(600), 1);
        x.piece(0, 9, 5, 1);
        due.is("13: beyond the night", x.readyIn(1), 12);
        due.is("13: now", x.count(0), 600);
    }

    /** Desk 0 has 20 pieces of 99 lines, and one more, that the editor does a line a minute. */
    private static CopyPlates slowDesk(int lines, int legal) {
        CopyPlates x = new CopyPlates();
        x.set(CopyPlates.EDIT, 1);
        for (int i = 0; i < 20; i++) {
            x.piece(0, 99, 5, 0);
        }
        x.piece(0, lines, 5, legal);
        return x;
    }

    private static void promise13MostMinutes() {
        due.is("13: 2000 minutes", slowDesk(20, 0).readyIn(20), 2000);
        due.is("13: 2001 minutes", slowDesk(21, 0).readyIn(20), CopyPlates.NONE);
        due.is("13: 2000 minutes with the lawyer", slowDesk(11, 1).readyIn(20), 2000);
        due.is("13: 2001 minutes with the lawyer", slowDesk(12, 1).readyIn(20), CopyPlates.NONE);
    }

    private static void promise13Refuses() {
        CopyPlates x = new CopyPlates();
        due.is("13: no piece", x.readyIn(0), CopyPlates.NO_SUCH);
        x.piece(0, 4, 5, 0);
        due.is("13: below", x.readyIn(-1), CopyPlates.NO_SUCH);
        due.is("13: above", x.readyIn(1), CopyPlates.NO_SUCH);
        due.is("13: far", x.readyIn(Integer.MAX_VALUE), CopyPlates.NO_SUCH);
    }

    private static void promise14LeastRoom() {
        CopyPlates x = new CopyPlates();
        due.is("14: no plate", x.leastRoom(), CopyPlates.NOT_POSSIBLE);
        x.piece(0, 40, 5, 0);
        x.piece(1, 41, 5, 0);
        x.piece(2, 7, 5, 1);
        x.plate(9);
        x.plate(11);
        due.is("14: ready in that minute", x.leastRoom(), 40);
        x.set(CopyPlates.ROOM, 400);
        due.is("14: whatever ROOM is", x.leastRoom(), 40);
        x.pass(10);
        due.is("14: also those that are on a plate", x.leastRoom(), 40 + 41 + 7);
        x.hold(0);
        due.is("14: not the held ones", x.leastRoom(), 41 + 7);
        x.kill(1);
        due.is("14: not the killed ones", x.leastRoom(), 10);
        x.pass(2);
        due.is("14: no plate is due", x.leastRoom(), CopyPlates.NOT_POSSIBLE);
    }

    private static void promise14Edges() {
        CopyPlates x = new CopyPlates();
        x.plate(599);
        due.is("14: no piece", x.leastRoom(), 10);
        x.piece(0, 10, 5, 0);
        due.is("14: the least", x.leastRoom(), 10);
        x.piece(0, 1, 5, 0);
        due.is("14: one more", x.leastRoom(), 11);
        for (int i = 0; i < 3; i++) {
            x.piece(1, 99, 5, 0);
        }
        x.piece(1, 92, 5, 0);
        due.is("14: the greatest", x.leastRoom(), 400);
        x.piece(2, 1, 5, 0);
        due.is("14: none", x.leastRoom(), CopyPlates.NONE);
        x.hold(5);
        due.is("14: without the held one", x.leastRoom(), 308 + 1);
    }

    private static void promise15NextPlate() {
        CopyPlates x = new CopyPlates();
        due.is("15: no plate", x.nextPlate(), CopyPlates.NOT_POSSIBLE);
        x.piece(0, 8, 5, 0);
        x.piece(1, 52, 5, 0);
        x.piece(2, 12, 4, 1);
        x.plate(0);
        x.plate(12);
        due.is("15: none is ready then", x.nextPlate(), 0);
        x.pass(1);
        due.is("15: the next one; those that fit", x.nextPlate(), 1 + 2);
        x.hold(1);
        due.is("15: without the held one", x.nextPlate(), 1 + 4);
        x.plate(1);
        due.is("15: an earlier one", x.nextPlate(), 1);
        x.pass(1);
        due.is("15: as it was told", x.ofPlate(1, 3), 1);
        x.pass(11);
        due.is("15: as it was told", x.ofPlate(2, 3), 1 + 4);
        due.is("15: no plate is due", x.nextPlate(), CopyPlates.NOT_POSSIBLE);
        x.pass(586);
        x.plate(599);
        due.is("15: in the last minute", x.nextPlate(), 1 + 4);
        CopyPlates y = new CopyPlates();
        y.piece(0, 8, 5, 0);
        y.plate(1);
        due.is("15: the first plate", y.nextPlate(), 1);
    }

    private static void promises11To15OfAFullNight() {
        CopyPlates x = new CopyPlates();
        for (int i = 0; i < 24; i++) {
            x.piece(i % 5, 4, i % 10, 0);
        }
        for (int i = 0; i < 8; i++) {
            x.plate(4 + i);
        }
        due.is("15: of 24 pieces", x.nextPlate(), 0x8FE3F8);
        due.is("14: of 24 pieces", x.leastRoom(), 24 * 4);
        due.is("13: of 24 pieces", x.readyIn(23), 5);
        x.pass(5);
        due.is("12: of 24 pieces", x.plateNow(), 0x8FE3F8);
        due.is("9: of 24 pieces", x.ofPlate(0, 3), 0x8FE3F8);
        due.is("11: the last one", x.why(20, 0), 5);
        due.is("11: the last one", x.why(20, 1), 23);
        x.pass(7);
        due.is("14: no plate is due", x.leastRoom(), CopyPlates.NOT_POSSIBLE);
        due.is("15: no plate is due", x.nextPlate(), CopyPlates.NOT_POSSIBLE);
        due.is("9: of eight", x.ofPlate(7, 4), 60);
        due.is("8: of eight", x.ofPiece(9, 10), 255);
        due.is("10: of 24", x.count(6), 24);
    }

    private static void promises11To15ChangeNothing() {
        CopyPlates x = new CopyPlates();
        x.piece(0, 8, 5, 1);
        x.piece(1, 52, 5, 0);
        x.plate(20);
        x.pass(3);
        String before = Due.stateOf(x);
        int changes = x.count(15);
        x.why(0, 0);
        x.why(0, 1);
        x.plateNow();
        x.readyIn(0);
        x.leastRoom();
        x.nextPlate();
        due.is("11 to 15: the state stays", before.equals(Due.stateOf(x)) ? 1 : 0, 1);
        due.is("11 to 15: no change is recorded", x.count(15), changes);
    }
}
