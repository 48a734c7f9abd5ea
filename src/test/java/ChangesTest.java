/** Promises 1 to 7: a new object, and the changes. */
public final class ChangesTest {
    private static final Due due = new Due();

    public static void main(String[] args) {
        promise01NewObject();
        promise02SetAnswersThePreviousValue();
        promise02SetRefuses();
        promise02SettingsWork();
        promise03Piece();
        promise03PieceRefuses();
        promise04PlatesLieByMinute();
        promise04PlateRefuses();
        promise05Hold();
        promise05HeldPieceIsWorkedOn();
        promise06KillLeavesQueues();
        promise06KillTellsReplate();
        promise06ReplateAtTheEdges();
        promise06ReplateOfLatestPlateOnly();
        promise06NoReplateAmongEightPlates();
        promise07DesksEdit();
        promise07LawyerReads();
        promise07LawyerQueueByDesks();
        promise07LegalAsItIsNow();
        promise07PlateByRank();
        promise07PassRefuses();
        due.end();
    }

    private static void promise01NewObject() {
        CopyPlates x = new CopyPlates();
        int[] counts = {0, 0, 0, 0, 0, 0, 0, 0, 0, 0, 4, 10, 60, 5, 0, 0};
        for (int what = 0; what < counts.length; what++) {
            due.is("1: count(" + what + ")", x.count(what), counts[what]);
        }
        due.is("1: no piece", x.ofPiece(0, 0), CopyPlates.NO_SUCH);
        due.is("1: no plate", x.ofPlate(0, 0), CopyPlates.NO_SUCH);
        due.is("1: nothing to undo", x.undo(), CopyPlates.NOT_POSSIBLE);
        due.is("1: nothing saved in 0", x.restore(0), CopyPlates.NOT_POSSIBLE);
        due.is("1: nothing saved in 1", x.restore(1), CopyPlates.NOT_POSSIBLE);
        due.is("1: empty pad", x.wipe(), 0);
        CopyPlates y = new CopyPlates();
        x.piece(0, 1, 1, 0);
        x.set(CopyPlates.EDIT, 9);
        due.is("1: objects are apart, pieces", y.count(1), 0);
        due.is("1: objects are apart, settings", y.count(10), 4);
    }

    private static void promise02SetAnswersThePreviousValue() {
        int[] least = {1, 1, 10, 1};
        int[] greatest = {20, 60, 400, 60};
        int[] first = {4, 10, 60, 5};
        for (int setting = 0; setting < 4; setting++) {
            CopyPlates x = new CopyPlates();
            due.is("2: set least", x.set(setting, least[setting]), first[setting]);
            due.is("2: set below", x.set(setting, least[setting] - 1), CopyPlates.BAD_VALUE);
            due.is("2: least stands", x.count(10 + setting), least[setting]);
            due.is("2: set greatest", x.set(setting, greatest[setting]), least[setting]);
            due.is("2: set above", x.set(setting, greatest[setting] + 1), CopyPlates.BAD_VALUE);
            due.is("2: greatest stands", x.count(10 + setting), greatest[setting]);
            due.is("2: the same again", x.set(setting, greatest[setting]), greatest[setting]);
            due.is("2: changes", x.count(15), 3);
        }
    }

    private static void promise02SetRefuses() {
        CopyPlates x = new CopyPlates();
        int[] wrong = {-1, 4, Integer.MIN_VALUE, Integer.MAX_VALUE};
        for (int value : wrong) {
            due.is("2: no setting " + value, x.set(value, 10), CopyPlates.BAD_VALUE);
        }
        due.is("2: value", x.set(2, Integer.MIN_VALUE), CopyPlates.BAD_VALUE);
        due.is("2: value", x.set(2, Integer.MAX_VALUE), CopyPlates.BAD_VALUE);
        due.is("2: no change", x.count(15), 0);
    }

    private static void promise02SettingsWork() {
        CopyPlates x = new CopyPlates();
        x.piece(0, 20, 5, 1);
        x.set(CopyPlates.EDIT, 20);
        x.set(CopyPlates.LEGAL, 1);
        x.set(CopyPlates.ROOM, 19);
        x.plate(0);
        due.is("2: pass", x.pass(1), 1);
        due.is("2: EDIT and LEGAL", x.ofPiece(0, 9), 0);
        due.is("2: ROOM", x.ofPlate(0, 3), 0);
        x.set(CopyPlates.ROOM, 20);
        x.plate(1);
        x.pass(1);
        due.is("2: ROOM", x.ofPlate(1, 3), 1);
        x.set(CopyPlates.DELAY, 60);
        due.is("2: kill", x.kill(0), 1);
        due.is("2: DELAY", x.ofPlate(2, 0), 62);
    }

    private static void promise03Piece() {
        CopyPlates x = new CopyPlates();
        for (int i = 0; i < 24; i++) {
            due.is("3: piece", x.piece(i % 5, 1 + i * 4, i % 10, i % 2), i);
        }
        for (int i = 0; i < 24; i++) {
            due.is("3: desk", x.ofPiece(i, 0), i % 5);
            due.is("3: lines", x.ofPiece(i, 1), 1 + i * 4);
            due.is("3: rank", x.ofPiece(i, 2), i % 10);
            due.is("3: legal", x.ofPiece(i, 3), i % 2);
            due.is("3: at its desk", x.ofPiece(i, 4), 0);
            due.is("3: not held", x.ofPiece(i, 5), 0);
            due.is("3: at the end of the queue", x.ofPiece(i, 8), i / 5);
        }
        due.is("3: 24 pieces", x.piece(0, 1, 0, 0), CopyPlates.TOO_MANY);
        due.is("3: value ahead of number", x.piece(0, 0, 0, 0), CopyPlates.BAD_VALUE);
        due.is("3: desk ahead of number", x.piece(5, 1, 0, 0), CopyPlates.NO_SUCH);
        due.is("3: killed pieces count", x.kill(3), 0);
        due.is("3: 24 pieces", x.piece(0, 1, 0, 0), CopyPlates.TOO_MANY);
        due.is("3: count", x.count(1), 24);
    }

    private static void promise03PieceRefuses() {
        CopyPlates x = new CopyPlates();
        due.is("3: desk", x.piece(-1, 1, 0, 0), CopyPlates.NO_SUCH);
        due.is("3: desk", x.piece(5, 1, 0, 0), CopyPlates.NO_SUCH);
        due.is("3: desk ahead of the others", x.piece(5, 0, -1, 2), CopyPlates.NO_SUCH);
        due.is("3: lines", x.piece(0, 0, 0, 0), CopyPlates.BAD_VALUE);
        due.is("3: lines", x.piece(0, 100, 0, 0), CopyPlates.BAD_VALUE);
        due.is("3: rank", x.piece(0, 1, -1, 0), CopyPlates.BAD_VALUE);
        due.is("3: rank", x.piece(0, 1, 10, 0), CopyPlates.BAD_VALUE);
        due.is("3: legal", x.piece(0, 1, 0, -1), CopyPlates.BAD_VALUE);
        due.is("3: legal", x.piece(0, 1, 0, 2), CopyPlates.BAD_VALUE);
        due.is("3: none came", x.count(1), 0);
        due.is("3: no change", x.count(15), 0);
        due.is("3: edge", x.piece(4, 99, 9, 1), 0);
        due.is("3: edge", x.piece(0, 1, 0, 0), 1);
    }

    private static void promise04PlatesLieByMinute() {
        CopyPlates x = new CopyPlates();
        due.is("4: first", x.plate(30), 0);
        due.is("4: ahead", x.plate(10), 0);
        due.is("4: between", x.plate(20), 1);
        due.is("4: last", x.plate(599), 3);
        due.is("4: now", x.plate(0), 0);
        int[] minutes = {0, 10, 20, 30, 599};
        for (int plate = 0; plate < minutes.length; plate++) {
            due.is("4: minute", x.ofPlate(plate, 0), minutes[plate]);
            due.is("4: no replate", x.ofPlate(plate, 2), 0);
        }
    }

    private static void promise04PlateRefuses() {
        CopyPlates x = new CopyPlates();
        due.is("4: below now", x.plate(-1), CopyPlates.BAD_VALUE);
        due.is("4: above", x.plate(600), CopyPlates.BAD_VALUE);
        due.is("4: far above", x.plate(Integer.MAX_VALUE), CopyPlates.BAD_VALUE);
        x.pass(5);
        due.is("4: passed", x.plate(4), CopyPlates.BAD_VALUE);
        for (int i = 0; i < 7; i++) {
            due.is("4: plate", x.plate(5 + i), i);
        }
        due.is("4: due then", x.plate(5), CopyPlates.NOT_POSSIBLE);
        due.is("4: eighth", x.plate(12), 7);
        due.is("4: too many ahead of due then", x.plate(12), CopyPlates.TOO_MANY);
        due.is("4: value ahead of too many", x.plate(4), CopyPlates.BAD_VALUE);
        due.is("4: changes", x.count(15), 6);
        x.pass(20);
        due.is("4: made ones count", x.plate(100), CopyPlates.TOO_MANY);
        x.pass(575);
        due.is("4: behind the night", x.plate(600), CopyPlates.BAD_VALUE);
    }

    private static void promise05Hold() {
        CopyPlates x = new CopyPlates();
        x.piece(0, 4, 5, 0);
        due.is("5: no such", x.hold(1), CopyPlates.NO_SUCH);
        due.is("5: no such", x.hold(-1), CopyPlates.NO_SUCH);
        due.is("5: no such", x.hold(Integer.MAX_VALUE), CopyPlates.NO_SUCH);
        due.is("5: held", x.hold(0), 1);
        due.is("5: held", x.ofPiece(0, 5), 1);
        due.is("5: no more", x.hold(0), 0);
        due.is("5: no more", x.ofPiece(0, 5), 0);
        x.hold(0);
        x.kill(0);
        due.is("5: killed", x.hold(0), CopyPlates.NOT_POSSIBLE);
        due.is("5: killing changes no hold", x.ofPiece(0, 5), 1);
        due.is("5: but is not counted", x.count(8), 0);
        due.is("5: changes", x.count(15), 5);
    }

    private static void promise05HeldPieceIsWorkedOn() {
        CopyPlates x = new CopyPlates();
        x.piece(0, 4, 5, 1);
        x.piece(0, 4, 5, 0);
        x.hold(0);
        x.hold(1);
        x.plate(20);
        x.plate(21);
        x.pass(20);
        due.is("5: edited and read", x.ofPiece(0, 9), 9);
        due.is("5: edited", x.ofPiece(1, 9), 1);
        x.hold(1);
        x.pass(1);
        due.is("5: on no plate", x.ofPlate(0, 3), 2);
        x.hold(0);
        x.pass(1);
        due.is("5: on the next one", x.ofPlate(1, 3), 3);
    }

    private static void promise06KillLeavesQueues() {
        CopyPlates x = new CopyPlates();
        x.piece(0, 12, 5, 1);
        x.piece(0, 4, 5, 1);
        x.piece(0, 4, 5, 1);
        due.is("6: no such", x.kill(3), CopyPlates.NO_SUCH);
        due.is("6: no such", x.kill(-1), CopyPlates.NO_SUCH);
        x.pass(1);
        due.is("6: kill", x.kill(0), 0);
        due.is("6: again", x.kill(0), CopyPlates.NOT_POSSIBLE);
        due.is("6: killed", x.ofPiece(0, 4), 3);
        due.is("6: out of the queue", x.ofPiece(0, 8), CopyPlates.NONE);
        due.is("6: work stays", x.ofPiece(0, 6), 4);
        due.is("6: not ready", x.ofPiece(0, 9), CopyPlates.NONE);
        due.is("6: the next one is first", x.ofPiece(1, 8), 0);
        x.pass(2);
        due.is("6: no more work", x.ofPiece(0, 6), 4);
        due.is("6: at the lawyer's", x.ofPiece(1, 8), 0);
        due.is("6: at the lawyer's", x.ofPiece(2, 8), 1);
        due.is("6: kill at the lawyer's", x.kill(1), 0);
        due.is("6: out of the queue", x.ofPiece(1, 8), CopyPlates.NONE);
        due.is("6: the next one is first", x.ofPiece(2, 8), 0);
        x.pass(10);
        due.is("6: read stays", x.ofPiece(1, 7), 2);
        due.is("6: ready", x.ofPiece(2, 9), 12);
        due.is("6: kill a ready one", x.kill(2), 0);
        due.is("6: was ready", x.ofPiece(2, 9), 12);
    }

    /** A piece of one line is on a plate that is made in minute 0. */
    private static CopyPlates withPieceOnPlate() {
        CopyPlates x = new CopyPlates();
        x.piece(0, 1, 5, 0);
        x.plate(0);
        x.pass(1);
        return x;
    }

    private static void promise06KillTellsReplate() {
        CopyPlates x = withPieceOnPlate();
        x.plate(100);
        due.is("6: replate", x.kill(0), 1);
        due.is("6: its number", x.ofPlate(1, 2), 1);
        due.is("6: its minute", x.ofPlate(1, 0), 6);
        due.is("6: the plate behind", x.ofPlate(2, 0), 100);
        due.is("6: is none", x.ofPlate(2, 2), 0);
        due.is("6: the plate keeps the piece", x.ofPlate(0, 3), 1);
        due.is("6: and the piece the plate", x.ofPiece(0, 10), 1);
        due.is("6: replates", x.count(9), 1);
        due.is("6: made", x.pass(6), 1);
        due.is("6: without it", x.ofPlate(1, 3), 0);
    }

    private static void promise06ReplateAtTheEdges() {
        int[] plates = {1, 6, 7};
        int[] told = {0, 0, 1};
        for (int i = 0; i < plates.length; i++) {
            CopyPlates x = withPieceOnPlate();
            x.plate(plates[i]);
            due.is("6: a plate is due in " + plates[i], x.kill(0), told[i]);
            due.is("6: plates", x.count(2), 2 + told[i]);
        }
        CopyPlates early = withPieceOnPlate();
        early.pass(593);
        due.is("6: last minute", early.kill(0), 1);
        due.is("6: last minute", early.ofPlate(1, 0), 599);
        CopyPlates late = withPieceOnPlate();
        late.pass(594);
        due.is("6: behind the last minute", late.kill(0), 0);
        due.is("6: plates", late.count(2), 1);
        CopyPlates over = withPieceOnPlate();
        over.pass(599);
        due.is("6: behind the night", over.kill(0), 0);
    }

    private static void promise06ReplateOfLatestPlateOnly() {
        CopyPlates x = new CopyPlates();
        x.piece(0, 1, 5, 0);
        x.piece(1, 1, 5, 0);
        x.plate(0);
        x.plate(1);
        x.pass(1);
        x.hold(0);
        x.pass(1);
        due.is("6: first", x.ofPlate(0, 3), 3);
        due.is("6: latest", x.ofPlate(1, 3), 2);
        due.is("6: not on the latest", x.kill(0), 0);
        due.is("6: on the latest", x.kill(1), 1);
        CopyPlates y = new CopyPlates();
        y.piece(0, 1, 5, 0);
        y.pass(1);
        due.is("6: no plate was made", y.kill(0), 0);
    }

    private static void promise06NoReplateAmongEightPlates() {
        for (int plates = 7; plates <= 8; plates++) {
            CopyPlates x = withPieceOnPlate();
            for (int i = 1; i < plates; i++) {
                x.plate(100 + i);
            }
            due.is("6: among " + plates, x.kill(0), plates == 7 ? 1 : 0);
            due.is("6: plates", x.count(2), 8);
            due.is("6: killed", x.ofPiece(0, 4), 3);
        }
    }

    private static void promise07DesksEdit() {
        CopyPlates x = new CopyPlates();
        x.piece(0, 10, 5, 0);
        x.piece(0, 3, 5, 0);
        x.piece(1, 4, 5, 0);
        due.is("7: pass", x.pass(1), 0);
        due.is("7: the first one", x.ofPiece(0, 6), 4);
        due.is("7: not the second one", x.ofPiece(1, 6), 0);
        due.is("7: the other desk", x.ofPiece(2, 9), 0);
        x.pass(2);
        due.is("7: those that are left", x.ofPiece(0, 6), 10);
        due.is("7: ready", x.ofPiece(0, 4), 2);
        due.is("7: ready in", x.ofPiece(0, 9), 2);
        due.is("7: no lines in the same minute", x.ofPiece(1, 6), 0);
        x.pass(1);
        due.is("7: then", x.ofPiece(1, 9), 3);
        due.is("7: minute of now", x.count(0), 4);
    }

    private static void promise07LawyerReads() {
        CopyPlates x = new CopyPlates();
        x.piece(0, 4, 5, 1);
        x.piece(0, 4, 5, 1);
        x.pass(1);
        due.is("7: at the lawyer's", x.ofPiece(0, 4), 1);
        due.is("7: read in the same minute", x.ofPiece(0, 7), 1);
        x.pass(8);
        due.is("7: not yet", x.ofPiece(0, 4), 1);
        due.is("7: the second one waits", x.ofPiece(1, 7), 0);
        x.pass(1);
        due.is("7: ready", x.ofPiece(0, 9), 9);
        due.is("7: the second one waits", x.ofPiece(1, 7), 0);
        x.pass(10);
        due.is("7: ready", x.ofPiece(1, 9), 19);
    }

    private static void promise07LawyerQueueByDesks() {
        CopyPlates x = new CopyPlates();
        x.piece(4, 4, 5, 1);
        x.piece(2, 4, 5, 1);
        x.piece(0, 8, 5, 1);
        x.piece(3, 4, 5, 1);
        x.pass(2);
        int[] places = {2, 0, 3, 1};
        for (int piece = 0; piece < 4; piece++) {
            due.is("7: place of " + piece, x.ofPiece(piece, 8), places[piece]);
        }
    }

    private static void promise07LegalAsItIsNow() {
        CopyPlates x = new CopyPlates();
        x.piece(0, 4, 5, 1);
        x.pass(5);
        x.set(CopyPlates.LEGAL, 3);
        due.is("7: it is still there", x.ofPiece(0, 4), 1);
        x.pass(1);
        due.is("7: read for more", x.ofPiece(0, 7), 6);
        due.is("7: ready", x.ofPiece(0, 9), 5);
    }

    private static void promise07PlateByRank() {
        CopyPlates x = new CopyPlates();
        x.set(CopyPlates.ROOM, 50);
        x.set(CopyPlates.EDIT, 20);
        x.piece(0, 21, 3, 0);
        x.piece(1, 20, 3, 0);
        x.piece(2, 20, 3, 0);
        x.piece(3, 11, 9, 0);
        x.plate(0);
        x.plate(1);
        due.is("7: both made", x.pass(2), 2);
        due.is("7: ready in the same minute counts", x.ofPlate(0, 3), 2 + 8);
        due.is("7: ready at once, then later, smaller number first", x.ofPlate(1, 3), 2 + 8);
        due.is("7: lines", x.ofPlate(1, 4), 31);
        x.set(CopyPlates.ROOM, 51);
        x.plate(2);
        x.pass(1);
        due.is("7: at most ROOM", x.ofPlate(2, 3), 2 + 4 + 8);
        x.kill(1);
        x.set(CopyPlates.ROOM, 32);
        x.plate(3);
        x.pass(1);
        due.is("7: the earlier one, then one behind that fits", x.ofPlate(3, 3), 4 + 8);
    }

    private static void promise07PassRefuses() {
        CopyPlates x = new CopyPlates();
        due.is("7: none", x.pass(0), CopyPlates.BAD_VALUE);
        due.is("7: less", x.pass(Integer.MIN_VALUE), CopyPlates.BAD_VALUE);
        due.is("7: more than the night", x.pass(601), CopyPlates.NOT_POSSIBLE);
        due.is("7: far more", x.pass(Integer.MAX_VALUE), CopyPlates.NOT_POSSIBLE);
        x.plate(599);
        due.is("7: the whole night", x.pass(600), 1);
        due.is("7: now", x.count(0), 600);
        due.is("7: one more", x.pass(1), CopyPlates.NOT_POSSIBLE);
        due.is("7: far more", x.pass(Integer.MAX_VALUE), CopyPlates.NOT_POSSIBLE);
        due.is("7: value ahead of possible", x.pass(0), CopyPlates.BAD_VALUE);
        due.is("7: changes", x.count(15), 2);
    }
}
