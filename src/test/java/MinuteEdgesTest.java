/**
 * Promise 7, and the sentences of "Terms" that bind it: the queues, a minute. Each method is the test of one
 * sentence; the comment quotes it.
 */
public final class MinuteEdgesTest {
    private static final int BAD_VALUE = CopyPlates.BAD_VALUE;
    private static final int NOT_POSSIBLE = CopyPlates.NOT_POSSIBLE;
    private static final int NONE = CopyPlates.NONE;
    private static final int EDIT = CopyPlates.EDIT;
    private static final int LEGAL = CopyPlates.LEGAL;
    private static final int ROOM = CopyPlates.ROOM;
    private static final Due due = new Due();

    public static void main(String[] args) throws Exception {
        Due.runAll(MinuteEdgesTest.class, due);
    }

    /** Piece i is of desk i, is not legal, and is ready as soon as its lines are edited. */
    private static CopyPlates withLines(int... lines) {
        CopyPlates x = new CopyPlates();
        for (int desk = 0; desk < lines.length; desk++) {
            x.piece(desk, lines[desk], 5, 0);
        }
        return x;
    }

    // ---- the minutes that pass

    /** "minutes: 1 or more"; "BAD_VALUE if minutes is less than 1". */
    private static void promise07LeastMinutes() {
        CopyPlates x = new CopyPlates();
        due.is("pass(0)", x.pass(0), BAD_VALUE);
        due.is("pass(-1)", x.pass(-1), BAD_VALUE);
        due.is("pass(MIN)", x.pass(Integer.MIN_VALUE), BAD_VALUE);
        due.is("pass(1)", x.pass(1), 0);
        due.is("count(0)", x.count(0), 1);
    }

    /** Terms: "The night has the minutes 0 to 599": all of them can pass at once, one more cannot. */
    private static void promise07WholeNight() {
        CopyPlates x = new CopyPlates();
        due.is("pass(601)", x.pass(601), NOT_POSSIBLE);
        due.is("count(0)", x.count(0), 0);
        due.is("pass(600)", x.pass(600), 0);
        due.is("count(0)", x.count(0), 600);
    }

    /** "NOT_POSSIBLE if more than the minute 599 would pass", in the minute 599. */
    private static void promise07Minute599() {
        CopyPlates x = new CopyPlates();
        x.pass(599);
        due.is("pass(2)", x.pass(2), NOT_POSSIBLE);
        due.is("pass(1)", x.pass(1), 0);
        due.is("count(0)", x.count(0), 600);
    }

    /** "NOT_POSSIBLE if more than the minute 599 would pass", when all have passed. */
    private static void promise07BehindMinute599() {
        CopyPlates x = new CopyPlates();
        x.pass(600);
        due.is("pass(1)", x.pass(1), NOT_POSSIBLE);
        due.is("count(0)", x.count(0), 600);
    }

    /** "NOT_POSSIBLE ..", for numbers so large that a sum would wrap around. */
    private static void promise07MinutesThatWouldWrapAround() {
        CopyPlates x = new CopyPlates();
        due.is("pass(MAX) at 0", x.pass(Integer.MAX_VALUE), NOT_POSSIBLE);
        x.pass(5);
        due.is("pass(MAX) at 5", x.pass(Integer.MAX_VALUE), NOT_POSSIBLE);
        due.is("pass(MAX - 4) at 5", x.pass(Integer.MAX_VALUE - 4), NOT_POSSIBLE);
        x.pass(595);
        due.is("pass(MAX) at 600", x.pass(Integer.MAX_VALUE), NOT_POSSIBLE);
        due.is("count(0)", x.count(0), 600);
    }

    /** "Returns how many plates are made": none, one, all eight. */
    private static void promise07ReturnsHowManyPlatesAreMade() {
        CopyPlates x = new CopyPlates();
        x.plate(9);
        for (int i = 0; i < 7; i++) {
            x.plate(30 + i);
        }
        due.is("none", x.pass(9), 0);
        due.is("one", x.pass(1), 1);
        due.is("none", x.pass(20), 0);
        due.is("seven", x.pass(7), 7);
        due.is("none is left", x.pass(500), 0);
        CopyPlates y = new CopyPlates();
        for (int i = 0; i < 8; i++) {
            y.plate(i);
        }
        due.is("eight", y.pass(8), 8);
    }

    /** The first and the last of the minutes that pass make their plates, the minute behind them does not. */
    private static void promise07FirstAndLastMinuteThatPass() {
        CopyPlates x = new CopyPlates();
        x.pass(10);
        x.plate(10);
        x.plate(14);
        x.plate(15);
        due.is("pass(5)", x.pass(5), 2);
        due.is("minute 14", x.ofPlate(1, 1), 1);
        due.is("minute 15", x.ofPlate(2, 1), 0);
    }

    /** The plates of the minutes 0 and 599 are made. */
    private static void promise07PlatesOfMinutes0And599() {
        CopyPlates x = withLines(4);
        x.plate(0);
        x.plate(599);
        due.is("pass(1)", x.pass(1), 1);
        due.is("ofPlate(0, 3)", x.ofPlate(0, 3), 1);
        due.is("pass(598)", x.pass(598), 0);
        due.is("pass(1)", x.pass(1), 1);
        due.is("ofPlate(1, 3)", x.ofPlate(1, 3), 1);
    }

    /** A row of minutes is as each minute by itself. */
    private static void promise07ManyMinutesAreAsOneByOne() {
        CopyPlates x = withLines(40, 9, 17);
        CopyPlates y = withLines(40, 9, 17);
        x.piece(1, 7, 9, 1);
        y.piece(1, 7, 9, 1);
        x.plate(5);
        y.plate(5);
        x.pass(20);
        for (int i = 0; i < 20; i++) {
            y.pass(1);
        }
        due.same("the night", Due.stateOf(x), Due.stateOf(y));
    }

    /** "Lets minutes pass. This is a change": one, however many pass. */
    private static void promise07IsAChange() {
        CopyPlates x = withLines(40);
        x.plate(5);
        x.pass(9);
        due.is("count(15)", x.count(15), 3);
        due.is("undo()", x.undo(), 2);
        due.is("count(0)", x.count(0), 0);
        due.is("ofPiece(0, 6)", x.ofPiece(0, 6), 0);
        due.is("ofPlate(0, 1)", x.ofPlate(0, 1), 0);
    }

    // ---- the queues

    /** "Each desk has a queue and one editor": the desks work side by side. */
    private static void promise07EachDeskHasAnEditor() {
        CopyPlates x = withLines(9, 9, 9, 9, 9);
        x.pass(1);
        for (int desk = 0; desk < 5; desk++) {
            due.is("desk " + desk, x.ofPiece(desk, 6), 4);
        }
    }

    /** "works on the first one of the queue": on no other one, whatever its rank is. */
    private static void promise07EditorWorksOnTheFirstOne() {
        CopyPlates x = new CopyPlates();
        x.piece(0, 9, 0, 0);
        x.piece(0, 1, 9, 0);
        x.pass(1);
        due.is("first", x.ofPiece(0, 6), 4);
        due.is("second", x.ofPiece(1, 6), 0);
    }

    /** "until it is done, or killed": the first one stays first until its last line is edited. */
    private static void promise07EditorWorksUntilItIsDone() {
        CopyPlates x = new CopyPlates();
        x.piece(0, 9, 0, 0);
        x.piece(0, 4, 9, 0);
        x.pass(2);
        due.is("first", x.ofPiece(0, 6), 8);
        due.is("second", x.ofPiece(1, 6), 0);
        x.pass(1);
        due.is("first", x.ofPiece(0, 4), 2);
        due.is("second", x.ofPiece(1, 6), 0);
        x.pass(1);
        due.is("second", x.ofPiece(1, 9), 3);
    }

    /** "until it is done, or killed": the next one is worked on in the next minute. */
    private static void promise07EditorGoesOnBehindAKill() {
        CopyPlates x = new CopyPlates();
        x.piece(0, 9, 0, 0);
        x.piece(0, 4, 9, 0);
        x.pass(1);
        x.kill(0);
        x.pass(1);
        due.is("second", x.ofPiece(1, 9), 1);
        due.is("killed", x.ofPiece(0, 6), 4);
    }

    /** "so has the lawyer": one queue for all desks, and one piece read in a minute. */
    private static void promise07LawyerReadsOnePieceAMinute() {
        CopyPlates x = new CopyPlates();
        x.piece(0, 4, 5, 1);
        x.piece(1, 4, 5, 1);
        x.pass(9);
        due.is("first", x.ofPiece(0, 7), 9);
        due.is("second", x.ofPiece(1, 7), 0);
        x.pass(1);
        due.is("first", x.ofPiece(0, 9), 9);
        due.is("second, in the minute in which the first is done", x.ofPiece(1, 7), 0);
        x.pass(1);
        due.is("second", x.ofPiece(1, 7), 1);
    }

    /** "The editor, or the lawyer, works on the first one .. until it is done, or killed": the lawyer. */
    private static void promise07LawyerGoesOnBehindAKill() {
        CopyPlates x = new CopyPlates();
        x.piece(0, 4, 5, 1);
        x.piece(1, 4, 5, 1);
        x.pass(3);
        x.kill(0);
        x.pass(1);
        due.is("killed", x.ofPiece(0, 7), 3);
        due.is("second", x.ofPiece(1, 7), 1);
    }

    /** "work that is done on a piece stays with it": of one that is killed, at its desk and at the lawyer's. */
    private static void promise07WorkStaysWithAPiece() {
        CopyPlates x = new CopyPlates();
        x.piece(0, 9, 5, 0);
        x.piece(1, 4, 5, 1);
        x.pass(2);
        x.kill(0);
        x.kill(1);
        x.pass(9);
        due.is("lines", x.ofPiece(0, 6), 8);
        due.is("lines", x.ofPiece(1, 6), 4);
        due.is("minutes", x.ofPiece(1, 7), 2);
    }

    /** A desk and a lawyer without a piece do nothing, and a piece that comes then is worked on at once. */
    private static void promise07EmptyQueues() {
        CopyPlates x = new CopyPlates();
        due.is("pass(7)", x.pass(7), 0);
        x.piece(0, 4, 5, 1);
        x.pass(1);
        due.is("lines", x.ofPiece(0, 6), 4);
        due.is("minutes", x.ofPiece(0, 7), 1);
    }

    // ---- a minute, 1: the desks

    /** "EDIT lines of the first piece of its queue are edited". */
    private static void promise07EditLinesAreEdited() {
        CopyPlates x = withLines(9);
        x.pass(1);
        due.is("4 of 9", x.ofPiece(0, 6), 4);
        x.set(EDIT, 3);
        x.pass(1);
        due.is("7 of 9", x.ofPiece(0, 6), 7);
    }

    /** "or those that are left": no line more than the piece has, and none of the next piece. */
    private static void promise07LinesThatAreLeftAreEdited() {
        CopyPlates x = new CopyPlates();
        x.piece(0, 9, 5, 0);
        x.piece(0, 9, 5, 0);
        x.pass(3);
        due.is("all 9", x.ofPiece(0, 6), 9);
        due.is("none of the next piece", x.ofPiece(1, 6), 0);
    }

    /** "If none are left, it leaves the queue": EDIT lines less one, EDIT, EDIT and one more. */
    private static void promise07LeavesTheQueueIfNoLinesAreLeft() {
        CopyPlates x = withLines(3, 4, 5);
        x.pass(1);
        due.is("3 lines", x.ofPiece(0, 9), 0);
        due.is("4 lines", x.ofPiece(1, 9), 0);
        due.is("5 lines", x.ofPiece(2, 9), NONE);
        due.is("5 lines", x.ofPiece(2, 8), 0);
        due.is("4 lines", x.ofPiece(1, 8), NONE);
        x.pass(1);
        due.is("5 lines", x.ofPiece(2, 9), 1);
    }

    /** "if it is legal, it comes to the end of the lawyer's queue, otherwise it is ready". */
    private static void promise07LegalOnesComeToTheLawyer() {
        CopyPlates x = new CopyPlates();
        x.piece(0, 4, 5, 1);
        x.piece(1, 4, 5, 0);
        x.piece(0, 4, 5, 1);
        x.pass(1);
        due.is("legal", x.ofPiece(0, 4), 1);
        due.is("not legal", x.ofPiece(1, 4), 2);
        x.pass(1);
        due.is("legal, at the end", x.ofPiece(2, 8), 1);
        due.is("legal, first", x.ofPiece(0, 8), 0);
    }

    /** "comes to the end of the lawyer's queue": the minute counts ahead of the desk and of the number. */
    private static void promise07LawyersQueueIsByMinutes() {
        CopyPlates x = new CopyPlates();
        x.piece(0, 8, 9, 1);
        x.piece(4, 4, 0, 1);
        x.pass(2);
        due.is("came in minute 0", x.ofPiece(1, 8), 0);
        due.is("came in minute 1", x.ofPiece(0, 8), 1);
    }

    /** "Each desk, in the order of their numbers": pieces of one minute come to the lawyer's by their desks. */
    private static void promise07LawyersQueueIsByDesksInAMinute() {
        CopyPlates x = new CopyPlates();
        for (int desk = 4; desk >= 0; desk--) {
            x.piece(desk, 4, 5, 1);
        }
        x.pass(1);
        for (int desk = 0; desk < 5; desk++) {
            due.is("place of desk " + desk, x.ofPiece(4 - desk, 8), desk);
        }
    }

    // ---- a minute, 2: the lawyer

    /** "The lawyer reads the first piece of the queue for this minute": one that came in this minute, too. */
    private static void promise07ReadsInTheMinuteInWhichItComes() {
        CopyPlates x = new CopyPlates();
        x.piece(0, 4, 5, 1);
        x.pass(1);
        due.is("minutes", x.ofPiece(0, 7), 1);
    }

    /** "when it was read for LEGAL minutes .. it leaves the queue, and is ready": not a minute before. */
    private static void promise07ReadForLegalMinutes() {
        CopyPlates x = new CopyPlates();
        x.piece(0, 4, 5, 1);
        x.pass(9);
        due.is("read for 9", x.ofPiece(0, 4), 1);
        due.is("read for 9", x.ofPiece(0, 8), 0);
        x.pass(1);
        due.is("read for 10", x.ofPiece(0, 4), 2);
        due.is("read for 10", x.ofPiece(0, 8), NONE);
        due.is("minutes", x.ofPiece(0, 7), 10);
        x.pass(1);
        due.is("no more", x.ofPiece(0, 7), 10);
    }

    /** "(as that is now)": LEGAL counts as it is when the minute passes, not as it was when the piece came. */
    private static void promise07LegalAsThatIsNow() {
        CopyPlates x = new CopyPlates();
        x.piece(0, 4, 5, 1);
        x.pass(4);
        x.set(LEGAL, 5);
        x.pass(1);
        due.is("a lower LEGAL", x.ofPiece(0, 9), 4);
        CopyPlates y = new CopyPlates();
        y.piece(0, 4, 5, 1);
        y.pass(4);
        y.set(LEGAL, 11);
        y.pass(6);
        due.is("a greater LEGAL", y.ofPiece(0, 4), 1);
        y.pass(1);
        due.is("a greater LEGAL", y.ofPiece(0, 9), 10);
    }

    /** "or more": LEGAL is set below what was read already; it leaves when the next minute passes. */
    private static void promise07ReadForMoreThanLegal() {
        CopyPlates x = new CopyPlates();
        x.piece(0, 4, 5, 1);
        x.pass(5);
        x.set(LEGAL, 1);
        due.is("not before a minute passes", x.ofPiece(0, 4), 1);
        x.pass(1);
        due.is("ready in", x.ofPiece(0, 9), 5);
        due.is("minutes", x.ofPiece(0, 7), 6);
    }

    // ---- a minute, 3: the plate

    /** "If a plate is due in this minute, it is made", of the pieces that became ready in it, too: at desks. */
    private static void promise07EditedInTheMinuteOfThePlate() {
        CopyPlates x = withLines(4, 5);
        x.plate(0);
        x.pass(1);
        due.is("ofPlate(0, 3)", x.ofPlate(0, 3), 1);
    }

    /** "If a plate is due in this minute, it is made", of the pieces that became ready in it, too: read ones. */
    private static void promise07ReadInTheMinuteOfThePlate() {
        CopyPlates x = new CopyPlates();
        x.piece(0, 4, 5, 1);
        x.plate(8);
        x.plate(9);
        x.pass(10);
        due.is("a minute before", x.ofPlate(0, 3), 0);
        due.is("in its minute", x.ofPlate(1, 3), 1);
    }

    /** "the pieces that are ready and not held": not those at desks, at the lawyer's, killed, or held. */
    private static void promise07ReadyAndNotHeld() {
        CopyPlates x = new CopyPlates();
        x.piece(0, 9, 5, 0);
        x.piece(1, 4, 5, 1);
        x.piece(2, 4, 5, 0);
        x.piece(3, 4, 5, 0);
        x.piece(4, 4, 5, 0);
        x.hold(3);
        x.plate(1);
        x.pass(1);
        x.kill(4);
        x.pass(1);
        due.is("ofPlate(0, 3)", x.ofPlate(0, 3), 4);
    }

    /** A piece that is on a plate is ready still: it is on the next one, too. */
    private static void promise07OnSeveralPlates() {
        CopyPlates x = withLines(4);
        x.plate(0);
        x.plate(1);
        x.pass(2);
        due.is("ofPlate(0, 3)", x.ofPlate(0, 3), 1);
        due.is("ofPlate(1, 3)", x.ofPlate(1, 3), 1);
    }

    /** "by rank, the greatest first": ahead of the minute in which they became ready. */
    private static void promise07GreatestRankFirst() {
        CopyPlates x = new CopyPlates();
        x.set(ROOM, 10);
        x.piece(0, 4, 0, 0);
        x.piece(1, 8, 1, 0);
        x.plate(0);
        x.plate(1);
        x.pass(2);
        due.is("rank 0 alone", x.ofPlate(0, 3), 1);
        due.is("rank 1 first", x.ofPlate(1, 3), 2);
    }

    /** "by rank, the greatest first": 9 ahead of 8, 1 ahead of 0. */
    private static void promise07GreatestAndLeastRank() {
        CopyPlates x = new CopyPlates();
        x.set(ROOM, 10);
        x.piece(0, 4, 8, 0);
        x.piece(1, 4, 0, 0);
        x.piece(2, 4, 1, 0);
        x.piece(3, 4, 9, 0);
        x.pass(1);
        due.is("9 and 8", x.plateNow(), 8 + 1);
        x.hold(0);
        due.is("9 and 1", x.plateNow(), 8 + 4);
    }

    /** "of like ones by the minute in which they became ready": ahead of the number. */
    private static void promise07LikeOnesByMinute() {
        CopyPlates x = new CopyPlates();
        x.set(ROOM, 10);
        x.piece(0, 8, 5, 0);
        x.piece(1, 4, 5, 0);
        x.plate(1);
        x.pass(2);
        due.is("the one of minute 0", x.ofPlate(0, 3), 2);
    }

    /** "then by their numbers": not by their desks, nor by the order in which the desks are gone through. */
    private static void promise07ThenByNumbers() {
        CopyPlates x = new CopyPlates();
        x.set(ROOM, 10);
        x.set(EDIT, 20);
        x.piece(4, 8, 5, 0);
        x.piece(0, 8, 5, 0);
        x.plate(0);
        x.pass(1);
        due.is("the smaller number", x.ofPlate(0, 3), 1);
    }

    /** "its lines, and those of the pieces taken ahead of it, are at most ROOM": exactly ROOM, and one more. */
    private static void promise07AtMostRoom() {
        CopyPlates x = withLines(8, 8);
        x.set(ROOM, 16);
        x.plate(1);
        x.plate(2);
        x.pass(2);
        due.is("exactly ROOM", x.ofPlate(0, 3), 3);
        x.set(ROOM, 15);
        x.pass(1);
        due.is("one line more", x.ofPlate(1, 3), 1);
    }

    /** "at most ROOM": one piece that is larger than the whole plate is not taken. */
    private static void promise07PieceLargerThanThePlate() {
        CopyPlates x = new CopyPlates();
        x.set(EDIT, 20);
        x.piece(0, 61, 9, 0);
        x.piece(1, 60, 8, 0);
        x.plate(3);
        x.pass(4);
        due.is("60 of 60", x.ofPlate(0, 3), 2);
    }

    /** "each that still has room on the plate .. is taken": also behind one that has none. */
    private static void promise07SmallerOneBehindOneWithoutRoom() {
        CopyPlates x = new CopyPlates();
        x.set(ROOM, 12);
        x.piece(0, 8, 9, 0);
        x.piece(1, 5, 8, 0);
        x.piece(2, 4, 7, 0);
        x.plate(1);
        x.pass(2);
        due.is("first and third", x.ofPlate(0, 3), 1 + 4);
    }

    /** "those of the pieces taken ahead of it": the lines of a piece that was not taken do not count. */
    private static void promise07LinesOfPiecesNotTakenDoNotCount() {
        CopyPlates x = new CopyPlates();
        x.set(ROOM, 12);
        x.piece(0, 13, 9, 0);
        x.piece(1, 12, 8, 0);
        x.plate(3);
        x.pass(4);
        due.is("second", x.ofPlate(0, 3), 2);
    }

    /** ROOM counts as it is when the plate is made; what is on a made plate stays. */
    private static void promise07RoomOfTheMinute() {
        CopyPlates x = withLines(8, 8);
        x.plate(1);
        x.set(ROOM, 10);
        x.pass(2);
        x.set(ROOM, 60);
        due.is("ofPlate(0, 3)", x.ofPlate(0, 3), 1);
        due.is("ofPlate(0, 4)", x.ofPlate(0, 4), 8);
    }

    /** A plate is made without a piece, too. */
    private static void promise07PlateWithoutAPiece() {
        CopyPlates x = new CopyPlates();
        x.plate(0);
        due.is("pass(1)", x.pass(1), 1);
        due.is("ofPlate(0, 1)", x.ofPlate(0, 1), 1);
        due.is("ofPlate(0, 3)", x.ofPlate(0, 3), 0);
    }

    /** "A held piece is edited and read as any other." */
    private static void promise07HeldPieceIsEditedAndRead() {
        CopyPlates x = new CopyPlates();
        x.piece(0, 8, 5, 1);
        x.piece(0, 4, 5, 0);
        x.hold(0);
        x.pass(2);
        due.is("edited", x.ofPiece(0, 6), 8);
        due.is("read", x.ofPiece(0, 7), 1);
        due.is("the one behind it waits", x.ofPiece(1, 6), 0);
        x.pass(9);
        due.is("ready in", x.ofPiece(0, 9), 10);
        due.is("held still", x.ofPiece(0, 5), 1);
    }
}
