/** Promises 11 to 15. Each method is the test of one sentence; the comment quotes it. */
public final class WhatIfEdgesTest {
    private static final int NO_SUCH = CopyPlates.NO_SUCH;
    private static final int BAD_VALUE = CopyPlates.BAD_VALUE;
    private static final int NOT_POSSIBLE = CopyPlates.NOT_POSSIBLE;
    private static final int NONE = CopyPlates.NONE;
    private static final int EDIT = CopyPlates.EDIT;
    private static final int LEGAL = CopyPlates.LEGAL;
    private static final int ROOM = CopyPlates.ROOM;
    private static final Due due = new Due();

    public static void main(String[] args) throws Exception {
        Due.runAll(WhatIfEdgesTest.class, due);
    }

    private static void why(CopyPlates x, int piece, int reason, int cause) {
        due.is("why(" + piece + ", 0)", x.why(piece, 0), reason);
        due.is("why(" + piece + ", 1)", x.why(piece, 1), cause);
    }

    /** Piece i has its lines and its rank, and is ready since the minute 0 if it has up to 20 lines. */
    private static CopyPlates ready(int room, int[] lines, int[] ranks) {
        CopyPlates x = new CopyPlates();
        x.set(ROOM, room);
        x.set(EDIT, 20);
        for (int i = 0; i < lines.length; i++) {
            x.piece(i % 5, lines[i], ranks[i], 0);
        }
        x.pass(1);
        return x;
    }

    // ---- promise 11

    /** "NO_SUCH if there is no such piece". */
    private static void promise11NoSuchPiece() {
        CopyPlates x = new CopyPlates();
        due.is("why(0, 0) without a piece", x.why(0, 0), NO_SUCH);
        due.is("why(0, 1) without a piece", x.why(0, 1), NO_SUCH);
        x.piece(0, 4, 5, 0);
        due.is("why(-1, 0)", x.why(-1, 0), NO_SUCH);
        due.is("why(1, 1)", x.why(1, 1), NO_SUCH);
        due.is("why(24, 0)", x.why(24, 0), NO_SUCH);
        due.is("why(MIN, 0)", x.why(Integer.MIN_VALUE, 0), NO_SUCH);
        due.is("why(MAX, 1)", x.why(Integer.MAX_VALUE, 1), NO_SUCH);
    }

    /** "BAD_VALUE if what is neither 0 nor 1", whatever the reason is. */
    private static void promise11NeitherO1() {
        CopyPlates x = ready(10, new int[] {8, 8, 8, 99}, new int[] {5, 5, 5, 5});
        x.hold(1);
        x.kill(0);
        for (int piece = 0; piece < 4; piece++) {
            due.is("why(" + piece + ", -1)", x.why(piece, -1), BAD_VALUE);
            due.is("why(" + piece + ", 2)", x.why(piece, 2), BAD_VALUE);
            due.is("why(" + piece + ", MIN)", x.why(piece, Integer.MIN_VALUE), BAD_VALUE);
            due.is("why(" + piece + ", MAX)", x.why(piece, Integer.MAX_VALUE), BAD_VALUE);
        }
    }

    /** "0 it would be"; the piece is "NONE for others". */
    private static void promise11ItWouldBe() {
        CopyPlates x = ready(16, new int[] {8, 8}, new int[] {5, 5});
        why(x, 0, 0, NONE);
        why(x, 1, 0, NONE);
    }

    /** "1 it is killed", at its desk, at the lawyer's, ready; "NONE for others". */
    private static void promise11ItIsKilled() {
        CopyPlates x = new CopyPlates();
        x.piece(0, 99, 5, 0);
        x.piece(1, 4, 5, 1);
        x.piece(2, 4, 5, 0);
        x.pass(1);
        for (int piece = 0; piece < 3; piece++) {
            x.kill(piece);
            why(x, piece, 1, NONE);
        }
    }

    /** "2 it is held", though it is ready, and there is room; "NONE for others". */
    private static void promise11ItIsHeld() {
        CopyPlates x = ready(16, new int[] {8, 8}, new int[] {5, 5});
        x.hold(0);
        why(x, 0, 2, NONE);
        x.hold(0);
        why(x, 0, 0, NONE);
    }

    /** "3 it is at its desk"; "for 3 and 4 the first one of the queue", which may be the piece itself. */
    private static void promise11ItIsAtItsDesk() {
        CopyPlates x = new CopyPlates();
        x.piece(1, 9, 5, 0);
        x.piece(0, 9, 5, 0);
        x.piece(1, 9, 5, 0);
        x.piece(0, 9, 5, 0);
        why(x, 0, 3, 0);
        why(x, 1, 3, 1);
        why(x, 2, 3, 0);
        why(x, 3, 3, 1);
        x.kill(0);
        why(x, 2, 3, 2);
    }

    /** "4 it is at the lawyer's"; "for 3 and 4 the first one of the queue", which may be the piece itself. */
    private static void promise11ItIsAtTheLawyers() {
        CopyPlates x = new CopyPlates();
        x.piece(2, 4, 5, 1);
        x.piece(1, 4, 5, 1);
        x.piece(0, 4, 5, 1);
        x.pass(1);
        why(x, 0, 4, 2);
        why(x, 1, 4, 2);
        why(x, 2, 4, 2);
        x.kill(2);
        why(x, 0, 4, 1);
        x.pass(10);
        why(x, 0, 4, 0);
    }

    /** "for 3 and 4 the first one of the queue": also if that one is held. */
    private static void promise11FirstOfTheQueueMayBeHeld() {
        CopyPlates x = new CopyPlates();
        x.piece(0, 9, 5, 0);
        x.piece(0, 9, 5, 0);
        x.hold(0);
        why(x, 0, 2, NONE);
        why(x, 1, 3, 0);
    }

    /** "the first of these": killed ahead of held. */
    private static void promise11KilledAheadOfHeld() {
        CopyPlates x = ready(16, new int[] {8}, new int[] {5});
        x.hold(0);
        x.kill(0);
        why(x, 0, 1, NONE);
    }

    /** "the first of these": held ahead of at its desk, at the lawyer's, and no room. */
    private static void promise11HeldAheadOfTheOthers() {
        CopyPlates x = new CopyPlates();
        x.set(ROOM, 10);
        x.piece(0, 99, 5, 0);
        x.piece(1, 4, 5, 1);
        x.piece(2, 11, 5, 0);
        x.pass(3);
        why(x, 0, 3, 0);
        why(x, 1, 4, 1);
        why(x, 2, 5, NONE);
        for (int piece = 0; piece < 3; piece++) {
            x.hold(piece);
            why(x, piece, 2, NONE);
        }
    }

    /** "on a plate that was made now (as in 3)": the minute does not pass, no work is done ahead of it. */
    private static void promise11AsIn3Alone() {
        CopyPlates x = new CopyPlates();
        x.piece(0, 4, 5, 0);
        x.piece(1, 4, 5, 1);
        x.plate(0);
        why(x, 0, 3, 0);
        why(x, 1, 3, 1);
        x.set(LEGAL, 2);
        x.pass(1);
        why(x, 0, 0, NONE);
        why(x, 1, 4, 1);
    }

    /** "5 there is no room": exactly ROOM is room, one line more is none. */
    private static void promise11ThereIsNoRoom() {
        CopyPlates x = ready(16, new int[] {8, 8}, new int[] {5, 5});
        why(x, 1, 0, NONE);
        x.set(ROOM, 15);
        why(x, 0, 0, NONE);
        why(x, 1, 5, 0);
    }

    /** "for 5 the last one that is taken ahead of it": the last of several, by rank, not by number. */
    private static void promise11LastTakenAheadByRank() {
        CopyPlates x = ready(20, new int[] {8, 8, 8}, new int[] {7, 8, 6});
        why(x, 2, 5, 0);
        CopyPlates y = ready(20, new int[] {8, 8, 8}, new int[] {8, 7, 6});
        why(y, 2, 5, 1);
    }

    /** "the last one that is taken ahead of it": of like ranks the one that became ready later, or its number. */
    private static void promise11LastTakenAheadOfLikeOnes() {
        CopyPlates x = new CopyPlates();
        x.set(ROOM, 18);
        x.piece(0, 8, 5, 0);
        x.piece(1, 4, 5, 0);
        x.piece(2, 4, 5, 0);
        x.piece(3, 11, 5, 0);
        x.pass(3);
        due.is("plateNow()", x.plateNow(), 1 + 2 + 4);
        why(x, 3, 5, 0);
        x.hold(0);
        due.is("plateNow()", x.plateNow(), 2 + 4);
        why(x, 3, 5, 2);
    }

    /** "that is taken": one ahead of it that has no room is not the cause. */
    private static void promise11OneAheadThatIsNotTaken() {
        CopyPlates x = ready(20, new int[] {15, 10, 10}, new int[] {9, 8, 7});
        why(x, 1, 5, 0);
        why(x, 2, 5, 0);
    }

    /** "ahead of it": one that is taken behind it is not the cause. */
    private static void promise11OneTakenBehindIt() {
        CopyPlates x = ready(20, new int[] {15, 10, 5}, new int[] {9, 8, 7});
        due.is("plateNow()", x.plateNow(), 1 + 4);
        why(x, 1, 5, 0);
    }

    /** "(NONE .. if none is)": it is larger than the plate, and the first; others are taken behind it. */
    private static void promise11NoneIsTakenAheadOfIt() {
        CopyPlates x = ready(15, new int[] {16, 15, 20}, new int[] {9, 8, 7});
        why(x, 0, 5, NONE);
        why(x, 1, 0, NONE);
        why(x, 2, 5, 1);
    }

    /** Piece 0 is a piece like others: NONE is not 0. */
    private static void promise11Piece0AsACause() {
        CopyPlates x = ready(20, new int[] {20, 1}, new int[] {5, 5});
        why(x, 1, 5, 0);
        x.hold(0);
        why(x, 1, 0, NONE);
    }

    /** "(as in 3)": a piece that is on an earlier plate would be on this one, too. */
    private static void promise11PieceOfAnEarlierPlate() {
        CopyPlates x = ready(20, new int[] {8}, new int[] {5});
        x.plate(1);
        x.pass(1);
        why(x, 0, 0, NONE);
        due.is("plateNow()", x.plateNow(), 1);
    }

    // ---- promise 12

    /** "Returns the set": empty without pieces, and without ready ones. */
    private static void promise12EmptySet() {
        CopyPlates x = new CopyPlates();
        due.is("without pieces", x.plateNow(), 0);
        x.piece(0, 4, 5, 0);
        due.is("without ready ones", x.plateNow(), 0);
        x.pass(1);
        x.hold(0);
        due.is("held", x.plateNow(), 0);
        x.hold(0);
        due.is("ready", x.plateNow(), 1);
        x.kill(0);
        due.is("killed", x.plateNow(), 0);
    }

    /** "a plate that was made now": the minute does not pass, no work is done ahead of it. */
    private static void promise12NoWorkAheadOfIt() {
        CopyPlates x = new CopyPlates();
        x.piece(0, 4, 5, 0);
        x.plate(0);
        due.is("plateNow()", x.plateNow(), 0);
        due.is("nextPlate()", x.nextPlate(), 1);
        x.pass(1);
        due.is("plateNow()", x.plateNow(), 1);
    }

    /** "a plate that was made now": no plate needs to be due, nor need there be room for a ninth, nor a minute. */
    private static void promise12WithoutAPlateThatIsDue() {
        CopyPlates x = ready(20, new int[] {8}, new int[] {5});
        for (int i = 0; i < 8; i++) {
            x.plate(10 + i);
        }
        due.is("8 plates", x.plateNow(), 1);
        x.pass(599);
        due.is("behind the night", x.plateNow(), 1);
    }

    /** Filled by rank, with exactly ROOM lines, and by ROOM as it is now. */
    private static void promise12FilledByRankUpToRoom() {
        CopyPlates x = ready(20, new int[] {10, 11, 9, 10}, new int[] {5, 6, 7, 4});
        due.is("9 and 11", x.plateNow(), 2 + 4);
        x.set(ROOM, 19);
        due.is("9 and 10", x.plateNow(), 1 + 4);
        x.set(ROOM, 10);
        due.is("9", x.plateNow(), 4);
    }

    // ---- promise 13

    /** "NO_SUCH if there is no such piece". */
    private static void promise13NoSuchPiece() {
        CopyPlates x = new CopyPlates();
        due.is("readyIn(0) without a piece", x.readyIn(0), NO_SUCH);
        x.piece(0, 4, 5, 0);
        due.is("readyIn(-1)", x.readyIn(-1), NO_SUCH);
        due.is("readyIn(1)", x.readyIn(1), NO_SUCH);
        due.is("readyIn(24)", x.readyIn(24), NO_SUCH);
        due.is("readyIn(MIN)", x.readyIn(Integer.MIN_VALUE), NO_SUCH);
        due.is("readyIn(MAX)", x.readyIn(Integer.MAX_VALUE), NO_SUCH);
    }

    /** "NOT_POSSIBLE if it is killed", also if it was ready. */
    private static void promise13KilledPiece() {
        CopyPlates x = new CopyPlates();
        x.piece(0, 4, 5, 0);
        x.piece(1, 99, 5, 0);
        x.pass(1);
        x.kill(0);
        x.kill(1);
        due.is("readyIn(0)", x.readyIn(0), NOT_POSSIBLE);
        due.is("readyIn(1)", x.readyIn(1), NOT_POSSIBLE);
    }

    /** "0 if it is", also if it is held. */
    private static void promise13ReadyPiece() {
        CopyPlates x = ready(20, new int[] {8}, new int[] {5});
        due.is("readyIn(0)", x.readyIn(0), 0);
        x.hold(0);
        due.is("readyIn(0), held", x.readyIn(0), 0);
        x.pass(599);
        due.is("readyIn(0), behind the night", x.readyIn(0), 0);
    }

    /** "in how many minutes": EDIT lines take one minute, one line more takes two. */
    private static void promise13MinutesAtTheDesk() {
        CopyPlates x = new CopyPlates();
        x.piece(0, 1, 5, 0);
        x.piece(1, 4, 5, 0);
        x.piece(2, 5, 5, 0);
        x.piece(2, 4, 5, 0);
        due.is("1 line", x.readyIn(0), 1);
        due.is("4 lines", x.readyIn(1), 1);
        due.is("5 lines", x.readyIn(2), 2);
        due.is("behind another one", x.readyIn(3), 3);
        x.pass(1);
        due.is("1 line is left", x.readyIn(2), 1);
    }

    /** "in how many minutes": the lawyer reads in the minute in which it comes, and one after the other. */
    private static void promise13MinutesAtTheLawyers() {
        CopyPlates x = new CopyPlates();
        x.piece(0, 4, 5, 1);
        x.piece(1, 4, 5, 1);
        due.is("first", x.readyIn(0), 10);
        due.is("second", x.readyIn(1), 20);
        x.pass(4);
        due.is("first", x.readyIn(0), 6);
        due.is("second", x.readyIn(1), 16);
        x.set(LEGAL, 1);
        due.is("first, read for more than LEGAL", x.readyIn(0), 1);
        due.is("second", x.readyIn(1), 2);
    }

    /** "if only time passes": a held piece takes as long as any other. */
    private static void promise13HeldPiece() {
        CopyPlates x = new CopyPlates();
        x.piece(0, 9, 5, 1);
        x.hold(0);
        due.is("readyIn(0)", x.readyIn(0), 12);
    }

    /** "(beyond the minute 599, too)". */
    private static void promise13BeyondMinute599() {
        CopyPlates x = new CopyPlates();
        x.pass(599);
        x.piece(0, 9, 5, 1);
        due.is("at 599", x.readyIn(0), 12);
        x.pass(1);
        due.is("at 600", x.readyIn(0), 11);
    }

    /** The lawyer's queue keeps its order beyond the minute 599. */
    private static void promise13LawyersQueueBeyondMinute599() {
        CopyPlates x = new CopyPlates();
        x.pass(598);
        x.piece(4, 4, 5, 1);
        x.piece(3, 8, 5, 1);
        x.piece(2, 12, 5, 1);
        x.piece(1, 16, 5, 1);
        due.is("first", x.readyIn(0), 10);
        due.is("second", x.readyIn(1), 20);
        due.is("third", x.readyIn(2), 30);
        due.is("fourth", x.readyIn(3), 40);
    }

    /** A piece behind so many others that it takes some minutes, with EDIT 1. */
    private static CopyPlates slowDesk(int lines) {
        CopyPlates x = new CopyPlates();
        x.set(EDIT, 1);
        for (int i = 0; i < 20; i++) {
            x.piece(0, 99, 5, 0);
        }
        x.piece(0, lines, 5, 0);
        return x;
    }

    /** "NONE if it takes more than 2000": 2000 is no NONE. */
    private static void promise13Takes2000() {
        due.is("readyIn(20)", slowDesk(20).readyIn(20), 2000);
    }

    /** "NONE if it takes more than 2000": 2001 is more. */
    private static void promise13TakesMoreThan2000() {
        due.is("readyIn(20)", slowDesk(21).readyIn(20), NONE);
    }

    /** "NONE if it takes more than 2000", counted from now, not from the minute 0. */
    private static void promise13Takes2000FromNow() {
        CopyPlates x = slowDesk(30);
        due.is("readyIn(20) at 0", x.readyIn(20), NONE);
        x.pass(9);
        due.is("readyIn(20) at 9", x.readyIn(20), NONE);
        x.pass(1);
        due.is("readyIn(20) at 10", x.readyIn(20), 2000);
    }

    /** The greatest queue of all: 24 pieces of 99 lines, with EDIT 1, then read for 60 minutes. */
    private static void promise13GreatestQueue() {
        CopyPlates x = new CopyPlates();
        x.set(EDIT, 1);
        x.set(LEGAL, 60);
        for (int i = 0; i < 24; i++) {
            x.piece(0, 99, 5, 1);
        }
        due.is("readyIn(0)", x.readyIn(0), 99 + 59);
        due.is("readyIn(18)", x.readyIn(18), 19 * 99 + 59);
        due.is("readyIn(19)", x.readyIn(19), NONE);
        due.is("readyIn(23)", x.readyIn(23), NONE);
    }

    // ---- promise 14

    /** "NOT_POSSIBLE if no plate is due": none is told, or all are made. */
    private static void promise14NoPlateIsDue() {
        CopyPlates x = new CopyPlates();
        due.is("none is told", x.leastRoom(), NOT_POSSIBLE);
        x.plate(1);
        x.pass(1);
        due.is("in its minute", x.leastRoom(), 10);
        x.pass(1);
        due.is("it is made", x.leastRoom(), NOT_POSSIBLE);
    }

    /** "the least ROOM, 10 to 400": 10 if there is no piece, and if there are up to 10 lines. */
    private static void promise14Least() {
        CopyPlates x = new CopyPlates();
        x.plate(20);
        due.is("no piece", x.leastRoom(), 10);
        x.piece(0, 9, 5, 0);
        due.is("9 lines", x.leastRoom(), 10);
        x.piece(0, 1, 5, 0);
        due.is("10 lines", x.leastRoom(), 10);
        x.piece(0, 1, 5, 0);
        due.is("11 lines", x.leastRoom(), 11);
    }

    /** Four pieces of 99 lines, and one more, are ready; a plate is due. */
    private static CopyPlates wide(int lines) {
        CopyPlates x = new CopyPlates();
        x.set(EDIT, 20);
        for (int desk = 0; desk < 4; desk++) {
            x.piece(desk, 99, 5, 0);
        }
        x.piece(4, lines, 5, 0);
        x.plate(9);
        return x;
    }

    /** "the least ROOM, 10 to 400": 400 lines. */
    private static void promise14Greatest() {
        due.is("leastRoom()", wide(4).leastRoom(), 400);
    }

    /** "NONE if there is none": 401 lines. */
    private static void promise14None() {
        due.is("leastRoom()", wide(5).leastRoom(), NONE);
    }

    /** "by which the next plate that is due would have all pieces", whatever ROOM is now. */
    private static void promise14WhateverRoomIsNow() {
        CopyPlates x = new CopyPlates();
        x.piece(0, 30, 5, 0);
        x.piece(1, 20, 5, 0);
        x.plate(9);
        x.set(ROOM, 10);
        due.is("ROOM 10", x.leastRoom(), 50);
        x.set(ROOM, 400);
        due.is("ROOM 400", x.leastRoom(), 50);
        due.is("ROOM stays", x.count(12), 400);
    }

    /** "that are ready then": in the minute of the plate, not now, and not a minute later. */
    private static void promise14ReadyThen() {
        CopyPlates x = new CopyPlates();
        x.piece(0, 20, 5, 0);
        x.piece(1, 24, 5, 0);
        x.piece(2, 25, 5, 0);
        x.plate(5);
        due.is("leastRoom()", x.leastRoom(), 20 + 24);
    }

    /** "and not held": held ones are left out, as they are now. */
    private static void promise14NotHeld() {
        CopyPlates x = new CopyPlates();
        x.piece(0, 20, 5, 0);
        x.piece(1, 24, 5, 0);
        x.plate(9);
        x.hold(0);
        due.is("one is held", x.leastRoom(), 24);
        x.hold(1);
        due.is("both are held", x.leastRoom(), 10);
    }

    /** Killed pieces are not ready. */
    private static void promise14NotKilled() {
        CopyPlates x = new CopyPlates();
        x.piece(0, 20, 5, 0);
        x.piece(1, 24, 5, 0);
        x.plate(19);
        x.pass(9);
        x.kill(0);
        due.is("leastRoom()", x.leastRoom(), 24);
    }

    /** "the next plate that is due": not a later one, not one that is made. */
    private static void promise14NextPlateThatIsDue() {
        CopyPlates x = new CopyPlates();
        x.piece(0, 11, 5, 0);
        x.piece(1, 40, 5, 0);
        x.piece(2, 60, 5, 0);
        x.plate(0);
        x.plate(5);
        x.plate(12);
        x.plate(18);
        x.pass(1);
        due.is("plate of minute 5", x.leastRoom(), 11);
        x.pass(5);
        due.is("plate of minute 12", x.leastRoom(), 11 + 40);
    }

    /** "the next plate that is due": a replate, in the minute 599. */
    private static void promise14ReplateInMinute599() {
        CopyPlates x = new CopyPlates();
        x.piece(0, 1, 5, 0);
        x.piece(1, 40, 5, 0);
        x.plate(593);
        x.pass(594);
        due.is("leastRoom(), none is due", x.leastRoom(), NOT_POSSIBLE);
        due.is("kill(0)", x.kill(0), 1);
        due.is("leastRoom()", x.leastRoom(), 40);
    }

    // ---- promise 15

    /** "NOT_POSSIBLE if no plate is due": none is told, or all are made. */
    private static void promise15NoPlateIsDue() {
        CopyPlates x = new CopyPlates();
        due.is("none is told", x.nextPlate(), NOT_POSSIBLE);
        x.plate(1);
        x.pass(1);
        due.is("in its minute", x.nextPlate(), 0);
        x.pass(1);
        due.is("it is made", x.nextPlate(), NOT_POSSIBLE);
    }

    /** "on the next plate that is due": in the minute of now, behind the work of that minute. */
    private static void promise15InTheMinuteOfNow() {
        CopyPlates x = new CopyPlates();
        x.piece(0, 4, 5, 0);
        x.piece(1, 5, 5, 0);
        x.plate(0);
        due.is("nextPlate()", x.nextPlate(), 1);
    }

    /** "on the next plate that is due": in the minute 599. */
    private static void promise15InMinute599() {
        CopyPlates x = new CopyPlates();
        x.piece(0, 4, 5, 0);
        x.plate(599);
        due.is("at 0", x.nextPlate(), 1);
        x.pass(599);
        due.is("at 599", x.nextPlate(), 1);
        x.pass(1);
        due.is("at 600", x.nextPlate(), NOT_POSSIBLE);
    }

    /** "the next plate that is due": not a later one, not one that is made. */
    private static void promise15NextPlateThatIsDue() {
        CopyPlates x = new CopyPlates();
        x.piece(0, 4, 5, 0);
        x.piece(1, 8, 5, 0);
        x.piece(2, 40, 5, 0);
        x.plate(0);
        x.plate(1);
        x.plate(20);
        x.pass(1);
        due.is("plate of minute 1", x.nextPlate(), 1 + 2);
        x.pass(1);
        due.is("plate of minute 20", x.nextPlate(), 1 + 2 + 4);
    }

    /** "the next plate that is due": a replate is one. */
    private static void promise15Replate() {
        CopyPlates x = new CopyPlates();
        x.piece(0, 1, 5, 0);
        x.piece(1, 24, 5, 0);
        x.piece(2, 25, 5, 0);
        x.plate(0);
        x.plate(300);
        x.pass(1);
        x.kill(0);
        due.is("the replate of minute 6", x.nextPlate(), 2 + 4);
        x.piece(1, 5, 5, 0);
        due.is("the replate of minute 6", x.nextPlate(), 2 + 4);
        x.pass(6);
        due.is("the plate of minute 300", x.nextPlate(), 2 + 4 + 8);
    }

    /** "if only time passes": as pass() then does. */
    private static void promise15AsPassThenDoes() {
        CopyPlates x = ready(30, new int[] {20, 12, 8, 5}, new int[] {3, 6, 3, 1});
        x.piece(0, 3, 9, 1);
        x.plate(12);
        int set = x.nextPlate();
        x.pass(12);
        due.is("nextPlate()", set, 2 + 4 + 8 + 16);
        due.is("ofPlate(0, 3)", x.ofPlate(0, 3), set);
    }

    /** "if only time passes": a held piece stays held. */
    private static void promise15HeldPiece() {
        CopyPlates x = new CopyPlates();
        x.piece(0, 4, 5, 0);
        x.piece(1, 4, 5, 0);
        x.hold(0);
        x.plate(9);
        due.is("nextPlate()", x.nextPlate(), 2);
    }

    // ---- "what if; nothing changes"

    private interface Question {
        int on(CopyPlates x);
    }

    /** Compares a night in which something is asked with one in which it is not, then and later. */
    private static void changesNothing(String call, Question question) {
        CopyPlates x = nightToAsk();
        CopyPlates y = nightToAsk();
        due.is(call + " is answered", question.on(x) >= 0 ? 1 : 0, 1);
        due.same("behind " + call, Due.stateOf(x), Due.stateOf(y));
        due.is("count(15) behind " + call, x.count(15), y.count(15));
        x.pass(30);
        y.pass(30);
        due.same("behind " + call + " and pass(30)", Due.stateOf(x), Due.stateOf(y));
        x.undo();
        y.undo();
        due.same("behind " + call + ", pass(30) and undo()", Due.stateOf(x), Due.stateOf(y));
    }

    private static CopyPlates nightToAsk() {
        CopyPlates x = new CopyPlates();
        x.piece(0, 40, 5, 1);
        x.piece(0, 40, 6, 1);
        x.piece(1, 30, 7, 0);
        x.piece(2, 4, 7, 1);
        x.plate(2);
        x.plate(25);
        x.pass(3);
        x.hold(2);
        return x;
    }

    /** Promise 11. */
    private static void promise11ChangesNothing() {
        changesNothing("why(1, 0)", x -> x.why(1, 0));
        changesNothing("why(1, 1)", x -> x.why(1, 1));
    }

    /** Promise 12. */
    private static void promise12ChangesNothing() {
        changesNothing("plateNow()", x -> x.plateNow());
    }

    /** Promise 13. */
    private static void promise13ChangesNothing() {
        changesNothing("readyIn(1)", x -> x.readyIn(1));
    }

    /** Promise 14. */
    private static void promise14ChangesNothing() {
        changesNothing("leastRoom()", x -> x.leastRoom());
    }

    /** Promise 15. */
    private static void promise15ChangesNothing() {
        changesNothing("nextPlate()", x -> x.nextPlate());
    }
}
