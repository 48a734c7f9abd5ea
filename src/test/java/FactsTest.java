/** Promises 8 to 10: what there is. */
public final class FactsTest {
    private static final Due due = new Due();

    public static void main(String[] args) {
        promise08OfPiece();
        promise08PlacesInQueues();
        promise08PlatesOfPiece();
        promise08Refuses();
        promise09OfPlate();
        promise09Refuses();
        promise10Count();
        promise10Refuses();
        due.end();
    }

    private static void facts(CopyPlates x, int piece, int... facts) {
        for (int what = 0; what < facts.length; what++) {
            due.is("8: ofPiece(" + piece + ", " + what + ")", x.ofPiece(piece, what), facts[what]);
        }
    }

    private static void promise08OfPiece() {
        CopyPlates x = new CopyPlates();
        x.piece(3, 6, 7, 1);
        x.piece(1, 99, 0, 0);
        facts(x, 0, 3, 6, 7, 1, 0, 0, 0, 0, 0, CopyPlates.NONE, 0);
        x.pass(2);
        facts(x, 0, 3, 6, 7, 1, 1, 0, 6, 1, 0, CopyPlates.NONE, 0);
        facts(x, 1, 1, 99, 0, 0, 0, 0, 8, 0, 0, CopyPlates.NONE, 0);
        x.hold(1);
        x.plate(11);
        x.pass(10);
        facts(x, 0, 3, 6, 7, 1, 2, 0, 6, 10, CopyPlates.NONE, 10, 1);
        facts(x, 1, 1, 99, 0, 0, 0, 1, 48, 0, 0, CopyPlates.NONE, 0);
        x.kill(0);
        x.kill(1);
        facts(x, 0, 3, 6, 7, 1, 3, 0, 6, 10, CopyPlates.NONE, 10, 1);
        facts(x, 1, 1, 99, 0, 0, 3, 1, 48, 0, CopyPlates.NONE, CopyPlates.NONE, 0);
    }

    private static void promise08PlacesInQueues() {
        CopyPlates x = new CopyPlates();
        x.piece(0, 40, 1, 0);
        x.piece(1, 4, 1, 1);
        x.piece(0, 4, 1, 0);
        x.piece(1, 4, 1, 1);
        x.piece(0, 4, 1, 0);
        int[] first = {0, 0, 1, 1, 2};
        for (int piece = 0; piece < 5; piece++) {
            due.is("8: place of " + piece, x.ofPiece(piece, 8), first[piece]);
        }
        x.pass(1);
        due.is("8: first at the lawyer's", x.ofPiece(1, 8), 0);
        due.is("8: first at the desk", x.ofPiece(3, 8), 0);
        x.pass(1);
        due.is("8: second at the lawyer's", x.ofPiece(3, 8), 1);
        x.kill(2);
        due.is("8: moves up", x.ofPiece(4, 8), 1);
    }

    private static void promise08PlatesOfPiece() {
        CopyPlates x = new CopyPlates();
        x.piece(0, 4, 1, 0);
        for (int minute = 0; minute < 8; minute++) {
            x.plate(minute);
        }
        x.pass(1);
        due.is("8: on the first", x.ofPiece(0, 10), 1);
        x.hold(0);
        x.pass(3);
        x.hold(0);
        x.pass(4);
        due.is("8: on all but the held ones", x.ofPiece(0, 10), 1 + 16 + 32 + 64 + 128);
    }

    private static void promise08Refuses() {
        CopyPlates x = new CopyPlates();
        due.is("8: no piece", x.ofPiece(0, 0), CopyPlates.NO_SUCH);
        x.piece(0, 4, 1, 0);
        due.is("8: below", x.ofPiece(-1, 0), CopyPlates.NO_SUCH);
        due.is("8: above", x.ofPiece(1, 0), CopyPlates.NO_SUCH);
        due.is("8: far", x.ofPiece(Integer.MIN_VALUE, 0), CopyPlates.NO_SUCH);
        due.is("8: piece ahead of what", x.ofPiece(1, 11), CopyPlates.NO_SUCH);
        due.is("8: what below", x.ofPiece(0, -1), CopyPlates.BAD_VALUE);
        due.is("8: what above", x.ofPiece(0, 11), CopyPlates.BAD_VALUE);
        due.is("8: what far", x.ofPiece(0, Integer.MAX_VALUE), CopyPlates.BAD_VALUE);
    }

    private static void plateFacts(CopyPlates x, int plate, int... facts) {
        for (int what = 0; what < facts.length; what++) {
            due.is("9: ofPlate(" + plate + ", " + what + ")", x.ofPlate(plate, what), facts[what]);
        }
    }

    private static void promise09OfPlate() {
        CopyPlates x = new CopyPlates();
        x.piece(0, 7, 1, 0);
        x.piece(1, 8, 1, 0);
        x.plate(1);
        x.plate(300);
        plateFacts(x, 0, 1, 0, 0, 0, 0);
        x.pass(1);
        plateFacts(x, 0, 1, 0, 0, 0, 0);
        x.pass(1);
        plateFacts(x, 0, 1, 1, 0, 3, 15);
        x.kill(1);
        plateFacts(x, 0, 1, 1, 0, 3, 15);
        plateFacts(x, 1, 7, 0, 1, 0, 0);
        x.pass(6);
        plateFacts(x, 1, 7, 1, 1, 1, 7);
        plateFacts(x, 2, 300, 0, 0, 0, 0);
    }

    private static void promise09Refuses() {
        CopyPlates x = new CopyPlates();
        due.is("9: no plate", x.ofPlate(0, 0), CopyPlates.NO_SUCH);
        x.plate(3);
        due.is("9: below", x.ofPlate(-1, 0), CopyPlates.NO_SUCH);
        due.is("9: above", x.ofPlate(1, 0), CopyPlates.NO_SUCH);
        due.is("9: far", x.ofPlate(Integer.MAX_VALUE, 0), CopyPlates.NO_SUCH);
        due.is("9: plate ahead of what", x.ofPlate(1, 5), CopyPlates.NO_SUCH);
        due.is("9: what below", x.ofPlate(0, -1), CopyPlates.BAD_VALUE);
        due.is("9: what above", x.ofPlate(0, 5), CopyPlates.BAD_VALUE);
    }

    private static void counts(CopyPlates x, int... counts) {
        for (int what = 0; what < counts.length; what++) {
            due.is("10: count(" + what + ")", x.count(what), counts[what]);
        }
    }

    private static void promise10Count() {
        CopyPlates x = new CopyPlates();
        x.piece(0, 4, 1, 0);
        x.piece(0, 4, 1, 1);
        x.piece(1, 99, 1, 0);
        x.piece(1, 4, 1, 0);
        x.piece(1, 4, 1, 0);
        x.plate(0);
        x.plate(400);
        x.pass(3);
        x.hold(0);
        x.hold(1);
        x.hold(3);
        x.kill(3);
        x.kill(0);
        Due.putText(x, "zzz");
        counts(x, 3, 5, 3, 1, 2, 1, 0, 2, 1, 1, 4, 10, 60, 5, 3, 6);
        x.kill(1);
        counts(x, 3, 5, 3, 1, 2, 0, 0, 3, 0, 1, 4, 10, 60, 5, 3, 6);
        x.set(CopyPlates.EDIT, 20);
        x.set(CopyPlates.LEGAL, 21);
        x.set(CopyPlates.ROOM, 22);
        x.set(CopyPlates.DELAY, 23);
        x.pass(6);
        x.wipe();
        x.undo();
        counts(x, 3, 5, 3, 1, 2, 0, 0, 3, 0, 1, 20, 21, 22, 23, 0, 5);
        x.pass(6);
        counts(x, 9, 5, 3, 2, 0, 0, 2, 3, 0, 1, 20, 21, 22, 23, 0, 6);
        CopyPlates y = new CopyPlates();
        y.piece(0, 4, 1, 0);
        y.piece(0, 4, 1, 0);
        y.hold(0);
        due.is("10: the first piece is held", y.count(8), 1);
        y.hold(1);
        due.is("10: both are held", y.count(8), 2);
    }

    private static void promise10Refuses() {
        CopyPlates x = new CopyPlates();
        due.is("10: below", x.count(-1), CopyPlates.BAD_VALUE);
        due.is("10: above", x.count(16), CopyPlates.BAD_VALUE);
        due.is("10: far", x.count(Integer.MIN_VALUE), CopyPlates.BAD_VALUE);
        due.is("10: far", x.count(Integer.MAX_VALUE), CopyPlates.BAD_VALUE);
    }
}
