/**
 * Promises 1 to 22: long runs of calls, ordinary and wild, each answered by the program and by Model. The calls
 * come from a row of numbers that is the same each time. What an object answers behind its 512th call is free,
 * so a run has no more; it ends with a look at everything that can be asked.
 */
public final class ModelTest {
    private static final int RUNS = 12000;
    private static final int MOST_CALLS = 512;
    /** A text of 80 characters, with its faults and errors. */
    private static final int MOST_CALLS_OF_A_STEP = 20;
    private static final String SIGNS = "+phkt;:!L0123456789";
    private static final Due due = new Due();

    private static long seed;
    /** Of the object of this run. */
    private static int calls;

    public static void main(String[] args) {
        for (int run = 0; run < RUNS && due.allRight(); run++) {
            seed = run * 7919L + 17;
            oneRun(run);
        }
        due.end();
    }

    private static int upTo(int most) {
        seed = seed * 6364136223846793005L + 1442695040888963407L;
        return (int) Math.floorMod(seed >>> 33, (long) most + 1);
    }

    private static int between(int least, int most) {
        return least + upTo(most - least);
    }

    /** Mostly from the range, sometimes just out of it or far away. */
    private static int around(int least, int most) {
        int wild = upTo(39);
        if (wild == 0) {
            return least - 1;
        }
        if (wild == 1) {
            return most + 1;
        }
        if (wild == 2) {
            return upTo(1) == 0 ? Integer.MIN_VALUE : Integer.MAX_VALUE;
        }
        return between(least, most);
    }

    private static void is(String call, long got, long want) {
        calls++;
        due.is(call, got, want);
    }

    private static void oneRun(int run) {
        CopyPlates x = new CopyPlates();
        Model m = new Model();
        calls = 0;
        int slowness = between(0, 3);
        int steps = between(5, 250);
        for (int step = 0; step < steps && calls + MOST_CALLS_OF_A_STEP + callsToCompare(m) <= MOST_CALLS; step++) {
            oneCall("run " + run + ", step " + step + ": ", x, m, slowness);
        }
        compareStates("run " + run + ", at its end: ", x, m);
        due.is("run " + run + " has at most 512 calls", calls <= MOST_CALLS ? 1 : 0, 1);
    }

    private static int callsToCompare(Model m) {
        return 16 + 13 * m.count(1) + 5 * m.count(2);
    }

    private static void oneCall(String at, CopyPlates x, Model m, int slowness) {
        switch (upTo(29)) {
            case 0:
            case 1:
                change(at, x, m);
                break;
            case 2:
            case 3:
            case 4:
            case 5:
                piece(at, x, m);
                break;
            case 6:
            case 7:
                int minute = upTo(3) == 0 ? around(0, 599) : m.count(0) + between(0, 40);
                is(at + "plate(" + minute + ")", x.plate(minute), m.plate(minute));
                break;
            case 8:
            case 9:
                int held = around(0, 23);
                is(at + "hold(" + held + ")", x.hold(held), m.hold(held));
                break;
            case 10:
            case 11:
                int killed = upTo(2) == 0 ? around(0, 23) : pieceOnLatest(m);
                is(at + "kill(" + killed + ")", x.kill(killed), m.kill(killed));
                break;
            case 12:
            case 13:
            case 14:
                int minutes = slowness == 0 ? around(1, 30) : around(1, 4);
                is(at + "pass(" + minutes + ")", x.pass(minutes), m.pass(minutes));
                break;
            case 15:
            case 16:
                whatIf(at, x, m);
                break;
            case 17:
            case 18:
                text(at, x, m);
                break;
            case 19:
                keep(at, x, m);
                break;
            default:
                ask(at, x, m);
                break;
        }
    }

    private static int pieceOnLatest(Model m) {
        int made = m.count(3);
        int set = made == 0 ? 0 : m.ofPlate(made - 1, 3);
        return set == 0 ? upTo(23) : Integer.numberOfTrailingZeros(set);
    }

    private static void change(String at, CopyPlates x, Model m) {
        int setting = around(0, 3);
        int value = upTo(2) == 0 ? around(10, 60) : around(1, 20);
        is(at + "set(" + setting + ", " + value + ")", x.set(setting, value), m.set(setting, value));
    }

    private static void piece(String at, CopyPlates x, Model m) {
        int desk = around(0, 4);
        int lines = upTo(1) == 0 ? around(1, 99) : between(1, 12);
        int rank = upTo(1) == 0 ? around(0, 9) : between(4, 5);
        int legal = around(0, 1);
        is(at + "piece(" + desk + ", " + lines + ", " + rank + ", " + legal + ")",
            x.piece(desk, lines, rank, legal), m.piece(desk, lines, rank, legal));
    }

    private static void whatIf(String at, CopyPlates x, Model m) {
        int piece = around(0, 23);
        is(at + "readyIn(" + piece + ")", x.readyIn(piece), m.readyIn(piece));
        is(at + "nextPlate()", x.nextPlate(), m.nextPlate());
        if (upTo(15) == 0) {
            is(at + "leastRoom()", x.leastRoom(), m.leastRoom());
        }
    }

    private static void ask(String at, CopyPlates x, Model m) {
        int piece = around(0, 23);
        int plate = around(0, 7);
        int what = around(0, 15);
        is(at + "ofPiece(" + piece + ", " + what + ")", x.ofPiece(piece, what), m.ofPiece(piece, what));
        is(at + "ofPlate(" + plate + ", " + what + ")", x.ofPlate(plate, what), m.ofPlate(plate, what));
        is(at + "count(" + what + ")", x.count(what), m.count(what));
        is(at + "why(" + piece + ", " + what % 3 + ")", x.why(piece, what % 3), m.why(piece, what % 3));
        is(at + "plateNow()", x.plateNow(), m.plateNow());
    }

    private static void keep(String at, CopyPlates x, Model m) {
        int slot = around(0, 1);
        int kind = upTo(3);
        if (kind == 0) {
            is(at + "save(" + slot + ")", x.save(slot), m.save(slot));
        } else if (kind == 1) {
            is(at + "restore(" + slot + ")", x.restore(slot), m.restore(slot));
        } else {
            int often = upTo(7);
            for (int i = 0; i < often; i++) {
                is(at + "undo()", x.undo(), m.undo());
            }
        }
    }

    private static void text(String at, CopyPlates x, Model m) {
        if (upTo(2) == 0) {
            is(at + "wipe()", x.wipe(), m.wipe());
        }
        String text = upTo(3) == 0 ? signs() : orders();
        for (int from = 0; from < text.length(); from += 8) {
            long packed = Due.pack(text.substring(from, Math.min(from + 8, text.length())));
            if (upTo(40) == 0) {
                packed ^= 1L << upTo(63);
            }
            is(at + "put(" + packed + ")", x.put(packed), m.put(packed));
        }
        is(at + "fault()", x.fault(), m.fault());
        is(at + "carryOut()", x.carryOut(), m.carryOut());
    }

    private static String signs() {
        StringBuilder text = new StringBuilder();
        int length = between(1, 20);
        for (int i = 0; i < length; i++) {
            text.append(SIGNS.charAt(upTo(SIGNS.length() - 1)));
        }
        return text.toString();
    }

    private static String orders() {
        StringBuilder text = new StringBuilder();
        int orders = between(1, 8);
        for (int i = 0; i < orders; i++) {
            text.append(i == 0 ? "" : ";").append(order());
        }
        return text.toString();
    }

    private static String order() {
        switch (upTo(6)) {
            case 0:
                return "p" + upTo(600);
            case 1:
                return "h" + upTo(24);
            case 2:
                return "k" + upTo(24);
            case 3:
                return "t" + upTo(9);
            case 4:
                return "t" + upTo(1001);
            default:
                return "+" + upTo(4) + ":" + upTo(100) + "!" + upTo(9) + (upTo(1) == 0 ? "L" : "");
        }
    }

    /** The last step may have brought pieces or plates, for which no calls were left over. */
    private static void compareStates(String at, CopyPlates x, Model m) {
        for (int what = 0; what <= 15; what++) {
            is(at + "count(" + what + ")", x.count(what), m.count(what));
        }
        for (int piece = 0; piece < m.count(1) && calls + 13 <= MOST_CALLS; piece++) {
            for (int what = 0; what <= 10; what++) {
                is(at + "ofPiece(" + piece + ", " + what + ")", x.ofPiece(piece, what), m.ofPiece(piece, what));
            }
            is(at + "why(" + piece + ", 0)", x.why(piece, 0), m.why(piece, 0));
            is(at + "why(" + piece + ", 1)", x.why(piece, 1), m.why(piece, 1));
        }
        for (int plate = 0; plate < m.count(2) && calls + 5 <= MOST_CALLS; plate++) {
            for (int what = 0; what <= 4; what++) {
                is(at + "ofPlate(" + plate + ", " + what + ")", x.ofPlate(plate, what), m.ofPlate(plate, what));
            }
        }
    }
}
