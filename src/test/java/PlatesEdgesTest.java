/**
 * Promises 4 and 6, and the sentences of "Terms" that bind them: plates, kills. Each method is the test of one
 * sentence; the comment quotes it.
 */
public final class PlatesEdgesTest {
    private static final int NO_SUCH = CopyPlates.NO_SUCH;
    private static final int BAD_VALUE = CopyPlates.BAD_VALUE;
    private static final int TOO_MANY = CopyPlates.TOO_MANY;
    private static final int NOT_POSSIBLE = CopyPlates.NOT_POSSIBLE;
    private static final int NONE = CopyPlates.NONE;
    private static final int DELAY = CopyPlates.DELAY;
    private static final Due due = new Due();

    public static void main(String[] args) throws Exception {
        Due.runAll(PlatesEdgesTest.class, due);
    }

    // ---- promise 4

    /** "minute: the minute of now to 599": the minute of now is in, the one before it is out. */
    private static void promise04MinuteOfNow() {
        CopyPlates x = new CopyPlates();
        due.is("plate(-1) at 0", x.plate(-1), BAD_VALUE);
        due.is("plate(0) at 0", x.plate(0), 0);
        x.pass(7);
        due.is("plate(6) at 7", x.plate(6), BAD_VALUE);
        due.is("plate(7) at 7", x.plate(7), 1);
    }

    /** "minute: the minute of now to 599": 599 is in, 600 is out. */
    private static void promise04Minute599() {
        CopyPlates x = new CopyPlates();
        due.is("plate(600)", x.plate(600), BAD_VALUE);
        due.is("plate(599)", x.plate(599), 0);
        due.is("plate(MAX)", x.plate(Integer.MAX_VALUE), BAD_VALUE);
        due.is("plate(MIN)", x.plate(Integer.MIN_VALUE), BAD_VALUE);
        due.is("count(2)", x.count(2), 1);
    }

    /** "minute: the minute of now to 599": in the minute 599, that one alone. */
    private static void promise04InMinute599() {
        CopyPlates x = new CopyPlates();
        x.pass(599);
        due.is("plate(598)", x.plate(598), BAD_VALUE);
        due.is("plate(600)", x.plate(600), BAD_VALUE);
        due.is("plate(599)", x.plate(599), 0);
        due.is("pass(1)", x.pass(1), 1);
    }

    /** "minute: the minute of now to 599": none, when all minutes have passed. */
    private static void promise04BehindMinute599() {
        CopyPlates x = new CopyPlates();
        x.pass(600);
        due.is("plate(599)", x.plate(599), BAD_VALUE);
        due.is("plate(600)", x.plate(600), BAD_VALUE);
        due.is("plate(601)", x.plate(601), BAD_VALUE);
    }

    /** Terms: "Up to 8 plates are told"; "TOO_MANY if there are 8 plates". */
    private static void promise04UpTo8Plates() {
        CopyPlates x = new CopyPlates();
        for (int i = 0; i < 8; i++) {
            due.is("plate", x.plate(100 + i), i);
        }
        due.is("ninth, behind the others", x.plate(200), TOO_MANY);
        due.is("ninth, ahead of the others", x.plate(0), TOO_MANY);
        due.is("count(2)", x.count(2), 8);
    }

    /** Terms: "Up to 8 plates are told": those that are made are among them. */
    private static void promise04MadePlatesAreAmongThe8() {
        CopyPlates x = new CopyPlates();
        for (int i = 0; i < 8; i++) {
            x.plate(i);
        }
        due.is("pass(8)", x.pass(8), 8);
        due.is("ninth", x.plate(20), TOO_MANY);
    }

    /** Terms: "Up to 8 plates are told": replates are among them. */
    private static void promise04ReplatesAreAmongThe8() {
        CopyPlates x = withPieceOnPlate();
        for (int i = 0; i < 6; i++) {
            x.plate(100 + i);
        }
        due.is("replate", x.kill(0), 1);
        due.is("ninth", x.plate(200), TOO_MANY);
        due.is("count(2)", x.count(2), 8);
    }

    /** Terms: "no two in the same one"; "NOT_POSSIBLE if one is due then"; the minutes beside it are free. */
    private static void promise04NoTwoInTheSameMinute() {
        CopyPlates x = new CopyPlates();
        x.plate(20);
        due.is("plate(20)", x.plate(20), NOT_POSSIBLE);
        due.is("plate(19)", x.plate(19), 0);
        due.is("plate(21)", x.plate(21), 2);
        due.is("plate(20)", x.plate(20), NOT_POSSIBLE);
        due.is("plate(21)", x.plate(21), NOT_POSSIBLE);
    }

    /** "NOT_POSSIBLE if one is due then": in the minute of now, and in the minute 599. */
    private static void promise04NoTwoInTheFirstAndTheLastMinute() {
        CopyPlates x = new CopyPlates();
        x.plate(0);
        x.plate(599);
        due.is("plate(0)", x.plate(0), NOT_POSSIBLE);
        due.is("plate(599)", x.plate(599), NOT_POSSIBLE);
    }

    /** "NOT_POSSIBLE if one is due then": a replate is a plate that is due. */
    private static void promise04NoneInTheMinuteOfAReplate() {
        CopyPlates x = withPieceOnPlate();
        x.kill(0);
        due.is("plate(6)", x.plate(6), NOT_POSSIBLE);
        due.is("plate(5)", x.plate(5), 1);
        due.is("plate(7)", x.plate(7), 3);
    }

    /** Terms: "They are numbered in the order of their minutes", not in the order in which they were told. */
    private static void promise04NumberedByMinutes() {
        CopyPlates x = new CopyPlates();
        due.is("first told", x.plate(50), 0);
        due.is("at the end", x.plate(90), 1);
        due.is("at the beginning", x.plate(10), 0);
        due.is("between", x.plate(60), 2);
        int[] minutes = {10, 50, 60, 90};
        for (int plate = 0; plate < 4; plate++) {
            due.is("ofPlate(" + plate + ", 0)", x.ofPlate(plate, 0), minutes[plate]);
        }
    }

    /** "Returns its number": for plates behind made ones, too. */
    private static void promise04NumberBehindMadePlates() {
        CopyPlates x = withPieceOnPlate();
        x.plate(400);
        due.is("plate(300)", x.plate(300), 1);
        due.is("ofPlate(0, 3)", x.ofPlate(0, 3), 1);
        due.is("ofPlate(1, 0)", x.ofPlate(1, 0), 300);
        due.is("ofPlate(2, 0)", x.ofPlate(2, 0), 400);
    }

    /** Terms: "numbered in the order of their minutes": a replate goes between the others, which keep theirs. */
    private static void promise04ReplateBetweenOthers() {
        CopyPlates x = withPieceOnPlate();
        x.plate(50);
        x.plate(60);
        x.kill(0);
        int[] minutes = {0, 6, 50, 60};
        int[] replates = {0, 1, 0, 0};
        for (int plate = 0; plate < 4; plate++) {
            due.is("ofPlate(" + plate + ", 0)", x.ofPlate(plate, 0), minutes[plate]);
            due.is("ofPlate(" + plate + ", 2)", x.ofPlate(plate, 2), replates[plate]);
        }
        x.plate(4);
        due.is("the replate moves", x.ofPlate(2, 2), 1);
        due.is("the new one is none", x.ofPlate(1, 2), 0);
    }

    /** "Tells a plate. This is a change." */
    private static void promise04IsAChange() {
        CopyPlates x = new CopyPlates();
        x.plate(9);
        x.plate(5);
        due.is("count(15)", x.count(15), 2);
        due.is("undo()", x.undo(), 1);
        due.is("count(2)", x.count(2), 1);
        due.is("ofPlate(0, 0)", x.ofPlate(0, 0), 9);
    }

    // ---- promise 6: the piece

    /** "NO_SUCH if there is no such piece". */
    private static void promise06NoSuchPiece() {
        CopyPlates x = new CopyPlates();
        due.is("kill(0) without a piece", x.kill(0), NO_SUCH);
        x.piece(0, 1, 5, 0);
        due.is("kill(-1)", x.kill(-1), NO_SUCH);
        due.is("kill(1)", x.kill(1), NO_SUCH);
        due.is("kill(24)", x.kill(24), NO_SUCH);
        due.is("kill(MIN)", x.kill(Integer.MIN_VALUE), NO_SUCH);
        due.is("kill(MAX)", x.kill(Integer.MAX_VALUE), NO_SUCH);
        due.is("kill(0)", x.kill(0), 0);
    }

    /** The last of 24 pieces can be killed. */
    private static void promise06LastOf24Pieces() {
        CopyPlates x = new CopyPlates();
        for (int i = 0; i < 24; i++) {
            x.piece(0, 1, 5, 0);
        }
        due.is("kill(24)", x.kill(24), NO_SUCH);
        due.is("kill(23)", x.kill(23), 0);
        due.is("ofPiece(23, 4)", x.ofPiece(23, 4), 3);
    }

    /** "NOT_POSSIBLE if it is killed". */
    private static void promise06KilledPiece() {
        CopyPlates x = withPieceOnPlate();
        x.piece(0, 9, 5, 0);
        x.kill(0);
        x.kill(1);
        due.is("kill(0)", x.kill(0), NOT_POSSIBLE);
        due.is("kill(1)", x.kill(1), NOT_POSSIBLE);
        due.is("count(7)", x.count(7), 2);
    }

    /** Terms: "it leaves its queue": the first, a middle and the last one at a desk. */
    private static void promise06LeavesItsDesksQueue() {
        for (int killed = 0; killed < 3; killed++) {
            CopyPlates x = new CopyPlates();
            for (int i = 0; i < 3; i++) {
                x.piece(0, 9, 5, 0);
            }
            x.kill(killed);
            int place = 0;
            for (int piece = 0; piece < 3; piece++) {
                due.is("place of " + piece + " behind kill(" + killed + ")", x.ofPiece(piece, 8),
                    piece == killed ? NONE : place);
                place += piece == killed ? 0 : 1;
            }
            due.is("count(4)", x.count(4), 2);
        }
    }

    /** Terms: "it leaves its queue": the first, a middle and the last one at the lawyer's. */
    private static void promise06LeavesTheLawyersQueue() {
        for (int killed = 0; killed < 3; killed++) {
            CopyPlates x = new CopyPlates();
            for (int desk = 0; desk < 3; desk++) {
                x.piece(desk, 4, 5, 1);
            }
            x.pass(1);
            x.kill(killed);
            int place = 0;
            for (int piece = 0; piece < 3; piece++) {
                due.is("place of " + piece + " behind kill(" + killed + ")", x.ofPiece(piece, 8),
                    piece == killed ? NONE : place);
                place += piece == killed ? 0 : 1;
            }
            due.is("count(5)", x.count(5), 2);
        }
    }

    /** A ready piece that is killed is on no plate that is made later. */
    private static void promise06KilledPieceIsOnNoLaterPlate() {
        CopyPlates x = withPieceOnPlate();
        x.plate(3);
        x.kill(0);
        x.pass(3);
        due.is("ofPlate(1, 3)", x.ofPlate(1, 3), 0);
        due.is("ofPiece(0, 10)", x.ofPiece(0, 10), 1);
    }

    /** A held piece can be killed. */
    private static void promise06HeldPiece() {
        CopyPlates x = withPieceOnPlate();
        x.hold(0);
        due.is("kill(0)", x.kill(0), 1);
        due.is("ofPiece(0, 4)", x.ofPiece(0, 4), 3);
        due.is("count(8)", x.count(8), 0);
    }

    /** "Kills a piece. This is a change": the piece and the replate are undone with it. */
    private static void promise06IsAChange() {
        CopyPlates x = withPieceOnPlate();
        int changes = x.count(15);
        x.kill(0);
        due.is("count(15)", x.count(15), changes + 1);
        x.undo();
        due.is("ofPiece(0, 4)", x.ofPiece(0, 4), 2);
        due.is("count(2)", x.count(2), 1);
        due.is("count(9)", x.count(9), 0);
    }

    // ---- promise 6: the replate

    /** Piece 0, of one line, is on plate 0 of the minute 0; the minute of now is 1. */
    private static CopyPlates withPieceOnPlate() {
        CopyPlates x = new CopyPlates();
        x.piece(0, 1, 5, 0);
        x.plate(0);
        x.pass(1);
        return x;
    }

    /** "Returns 1 if a replate is told"; Terms: "a replate is told for that last minute", which is now + DELAY. */
    private static void promise06ReplateInTheLastMinute() {
        CopyPlates x = withPieceOnPlate();
        due.is("kill(0)", x.kill(0), 1);
        due.is("count(2)", x.count(2), 2);
        due.is("its minute", x.ofPlate(1, 0), 1 + 5);
        due.is("it is a replate", x.ofPlate(1, 2), 1);
        due.is("it is not made", x.ofPlate(1, 1), 0);
        due.is("pass(5)", x.pass(5), 0);
        due.is("pass(1)", x.pass(1), 1);
    }

    /** DELAY counts as it is when the piece is killed. */
    private static void promise06DelayAsItIsThen() {
        CopyPlates x = withPieceOnPlate();
        x.pass(9);
        x.set(DELAY, 7);
        due.is("kill(0)", x.kill(0), 1);
        x.set(DELAY, 9);
        due.is("its minute", x.ofPlate(1, 0), 10 + 7);
    }

    /** Returns "otherwise 0": no plate was made. */
    private static void promise06NoPlateWasMade() {
        CopyPlates x = new CopyPlates();
        x.piece(0, 1, 5, 0);
        x.plate(300);
        x.pass(9);
        due.is("kill(0)", x.kill(0), 0);
        due.is("count(2)", x.count(2), 1);
    }

    /** Returns "otherwise 0": plates were made, but the piece is on none. */
    private static void promise06OnNoPlate() {
        CopyPlates x = withPieceOnPlate();
        x.piece(0, 9, 5, 0);
        x.pass(9);
        due.is("kill(1)", x.kill(1), 0);
        due.is("count(9)", x.count(9), 0);
    }

    /** "If it is on the latest plate that was made": on an earlier one alone is not enough. */
    private static void promise06OnAnEarlierPlateAlone() {
        CopyPlates x = withPieceOnPlate();
        x.hold(0);
        x.plate(1);
        x.pass(1);
        x.hold(0);
        due.is("kill(0)", x.kill(0), 0);
        due.is("count(2)", x.count(2), 2);
    }

    /** "the latest plate that was made": it may be on that one alone. */
    private static void promise06OnTheLatestPlateAlone() {
        CopyPlates x = new CopyPlates();
        x.piece(0, 1, 5, 0);
        x.hold(0);
        x.plate(0);
        x.plate(1);
        x.pass(1);
        x.hold(0);
        x.pass(1);
        due.is("kill(0)", x.kill(0), 1);
    }

    /** "the latest plate that was made" is the one of the latest minute, in whatever order they were told. */
    private static void promise06LatestIsByMinutes() {
        CopyPlates x = new CopyPlates();
        x.piece(0, 1, 5, 0);
        x.piece(1, 5, 5, 0);
        x.plate(1);
        x.plate(0);
        x.pass(1);
        x.hold(0);
        x.pass(1);
        due.is("on the plate of minute 0", x.ofPiece(0, 10), 1);
        due.is("on the plate of minute 1", x.ofPiece(1, 10), 2);
        due.is("kill(0)", x.kill(0), 0);
        due.is("kill(1)", x.kill(1), 1);
    }

    /** "the latest plate that was made": plates that are due are not made, however many there are. */
    private static void promise06PlatesThatAreDueAreNotTheLatest() {
        CopyPlates x = withPieceOnPlate();
        x.plate(100);
        x.plate(200);
        due.is("kill(0)", x.kill(0), 1);
    }

    /** "the latest plate that was made": however long ago. */
    private static void promise06LatestPlateLongAgo() {
        CopyPlates x = withPieceOnPlate();
        x.pass(500);
        due.is("kill(0)", x.kill(0), 1);
    }

    /** "the latest plate that was made": one that was made without a piece, too. */
    private static void promise06LatestPlateIsEmpty() {
        CopyPlates x = withPieceOnPlate();
        x.hold(0);
        x.plate(9);
        x.pass(9);
        due.is("ofPlate(1, 3)", x.ofPlate(1, 3), 0);
        due.is("kill(0)", x.kill(0), 0);
    }

    /** "the latest plate that was made": a replate that was made is one, too. */
    private static void promise06ReplateAsTheLatestPlate() {
        CopyPlates x = withPieceOnPlate();
        x.piece(0, 1, 5, 0);
        x.piece(1, 1, 5, 0);
        x.kill(0);
        x.pass(6);
        due.is("ofPlate(1, 3)", x.ofPlate(1, 3), 2 + 4);
        due.is("kill(1)", x.kill(1), 1);
        due.is("its minute", x.ofPlate(2, 0), 7 + 5);
        due.is("count(9)", x.count(9), 2);
    }

    /** A held piece that is on the latest plate is on it. */
    private static void promise06HeldPieceOnTheLatestPlate() {
        CopyPlates x = withPieceOnPlate();
        x.hold(0);
        due.is("kill(0)", x.kill(0), 1);
    }

    /** Kills the piece of the latest plate while a plate is due in a minute; answers what kill() did. */
    private static int killWithPlateDueIn(int minute) {
        CopyPlates x = withPieceOnPlate();
        x.pass(9);
        x.plate(minute);
        int answer = x.kill(0);
        due.is("plates with one due in " + minute, x.count(2), 2 + answer);
        return answer;
    }

    /** "no plate is due from the minute of now": one in the minute of now is due. */
    private static void promise06PlateDueInTheMinuteOfNow() {
        due.is("kill(0) at 10, plate in 10", killWithPlateDueIn(10), 0);
    }

    /** "to DELAY minutes later": one in that last minute is due. */
    private static void promise06PlateDueInTheLastMinute() {
        due.is("kill(0) at 10, plate in 15", killWithPlateDueIn(15), 0);
    }

    /** "from the minute of now to DELAY minutes later": one between them. */
    private static void promise06PlateDueBetween() {
        due.is("kill(0) at 10, plate in 12", killWithPlateDueIn(12), 0);
    }

    /** "to DELAY minutes later": one a minute behind the last one counts not. */
    private static void promise06PlateDueBehindTheLastMinute() {
        due.is("kill(0) at 10, plate in 16", killWithPlateDueIn(16), 1);
    }

    /** "no plate is due from the minute of now": one that was made in the minute before is not due. */
    private static void promise06PlateMadeInTheMinuteBefore() {
        CopyPlates x = withPieceOnPlate();
        x.plate(9);
        x.pass(9);
        due.is("count(0)", x.count(0), 10);
        due.is("kill(0)", x.kill(0), 1);
    }

    /** "no plate is due ..": a replate is due, too, so a second kill tells none. */
    private static void promise06ReplateIsDueAlready() {
        CopyPlates x = new CopyPlates();
        x.piece(0, 1, 5, 0);
        x.piece(1, 1, 5, 0);
        x.plate(0);
        x.pass(1);
        due.is("kill(0)", x.kill(0), 1);
        due.is("kill(1)", x.kill(1), 0);
        due.is("count(2)", x.count(2), 2);
    }

    /** "(if there are 8 plates .. none is)": with seven there is room for it, with eight there is none. */
    private static void promise06EightPlates() {
        CopyPlates seven = withPieceOnPlate();
        CopyPlates eight = withPieceOnPlate();
        eight.plate(200);
        for (int i = 0; i < 6; i++) {
            seven.plate(100 + i);
            eight.plate(100 + i);
        }
        due.is("kill(0), seven plates", seven.kill(0), 1);
        due.is("count(2)", seven.count(2), 8);
        due.is("kill(0), eight plates", eight.kill(0), 0);
        due.is("count(2)", eight.count(2), 8);
        due.is("count(9)", eight.count(9), 0);
        due.is("killed nevertheless", eight.ofPiece(0, 4), 3);
    }

    /** "(if .. that minute is above 599, none is)": 599 is not above. */
    private static void promise06ReplateInMinute599() {
        CopyPlates x = withPieceOnPlate();
        x.pass(593);
        due.is("kill(0) at 594", x.kill(0), 1);
        due.is("its minute", x.ofPlate(1, 0), 599);
        due.is("pass(6)", x.pass(6), 1);
    }

    /** "(if .. that minute is above 599, none is)": 600 is above; the piece is killed nevertheless. */
    private static void promise06ReplateAboveMinute599() {
        CopyPlates x = withPieceOnPlate();
        x.pass(594);
        due.is("kill(0) at 595", x.kill(0), 0);
        due.is("count(2)", x.count(2), 1);
        due.is("killed nevertheless", x.ofPiece(0, 4), 3);
    }

    /** "(if .. that minute is above 599, none is)": when all minutes have passed. */
    private static void promise06ReplateBehindTheNight() {
        CopyPlates x = withPieceOnPlate();
        x.pass(599);
        x.set(DELAY, 1);
        due.is("kill(0) at 600", x.kill(0), 0);
        due.is("count(2)", x.count(2), 1);
    }

    /** A replate is filled as a plate is: by what is ready in its minute. */
    private static void promise06ReplateIsFilledAsAPlate() {
        CopyPlates x = withPieceOnPlate();
        x.piece(1, 24, 5, 0);
        x.piece(2, 25, 5, 0);
        x.kill(0);
        x.pass(6);
        due.is("ofPlate(1, 3)", x.ofPlate(1, 3), 2);
        due.is("ofPlate(1, 4)", x.ofPlate(1, 4), 24);
    }
}
