/**
 * Promises 16 to 19, and the sentences of "Terms" that bind them: the texts. Each method is the test of one
 * sentence; the comment quotes it.
 */
public final class TextsEdgesTest {
    private static final int BAD_VALUE = CopyPlates.BAD_VALUE;
    private static final int BAD_TEXT = CopyPlates.BAD_TEXT;
    private static final int TOO_MANY = CopyPlates.TOO_MANY;
    private static final int NONE = CopyPlates.NONE;
    private static final Due due = new Due();

    public static void main(String[] args) throws Exception {
        Due.runAll(TextsEdgesTest.class, due);
    }

    private static CopyPlates withPad(String text) {
        CopyPlates x = new CopyPlates();
        due.is("put(" + text + ")", Due.putText(x, text), text.length());
        return x;
    }

    private static void fault(String text, int index) {
        due.is("fault of '" + text + "'", withPad(text).fault(), index);
    }

    private static void noFault(String... texts) {
        for (String text : texts) {
            fault(text, NONE);
        }
    }

    // ---- promise 16

    /** "characters: 1 to 8 characters"; "Returns the length of the pad then". */
    private static void promise16OneToEightCharacters() {
        for (int length = 1; length <= 8; length++) {
            CopyPlates x = new CopyPlates();
            due.is("put of " + length, x.put(Due.pack("t".repeat(length))), length);
            due.is("put of " + length + " again", x.put(Due.pack("t".repeat(length))), 2 * length);
            due.is("count(14)", x.count(14), 2 * length);
        }
    }

    /** "its lowest 8 bits are the last character, the next 8 bits the one before, and so on". */
    private static void promise16LowestBitsAreTheLastCharacter() {
        CopyPlates x = new CopyPlates();
        x.put('p' << 16 | '1' << 8 | '2');
        due.is("carryOut()", x.carryOut(), 1);
        due.is("p12", x.ofPlate(0, 0), 12);
        CopyPlates y = new CopyPlates();
        y.put(0x70313B703233343BL);
        y.put(0x7035L);
        due.is("carryOut() of p1;p234;p5", y.carryOut(), 3);
        due.is("p1", y.ofPlate(0, 0), 1);
        due.is("p5", y.ofPlate(1, 0), 5);
        due.is("p234", y.ofPlate(2, 0), 234);
    }

    /** "Appends characters to the pad": behind those that are there. */
    private static void promise16Appends() {
        CopyPlates x = new CopyPlates();
        x.put('p');
        x.put('1');
        x.put('2');
        due.is("carryOut()", x.carryOut(), 1);
        due.is("p12", x.ofPlate(0, 0), 12);
    }

    /** "BAD_VALUE if there is no character". */
    private static void promise16NoCharacter() {
        CopyPlates x = new CopyPlates();
        due.is("put(0)", x.put(0), BAD_VALUE);
        due.is("count(14)", x.count(14), 0);
    }

    /** "a code is not 33 to 126": the ends of the range, and the codes just out of it, at each place. */
    private static void promise16Codes33To126() {
        long[] out = {1, 31, 32, 127, 128, 129, 254, 255};
        for (int place = 0; place < 8; place++) {
            CopyPlates x = new CopyPlates();
            long others = 0x7474747474747474L & ~(255L << 8 * place);
            for (long code : out) {
                due.is("code " + code + " at place " + place, x.put(others | code << 8 * place), BAD_VALUE);
            }
            due.is("code 33 at place " + place, x.put(others | 33L << 8 * place), 8);
            due.is("code 126 at place " + place, x.put(others | 126L << 8 * place), 16);
        }
    }

    /** "a code is not 33 to 126": each one by itself. */
    private static void promise16EachCode() {
        for (int code = 1; code <= 255; code++) {
            CopyPlates x = new CopyPlates();
            due.is("put(" + code + ")", x.put(code), code >= 33 && code <= 126 ? 1 : BAD_VALUE);
        }
    }

    /** "everything above them has to be 0, too": a character behind 8 bits that are 0, at each place. */
    private static void promise16BitsAbove8BitsThatAre0() {
        for (int gap = 0; gap < 7; gap++) {
            for (int above = gap + 1; above < 8; above++) {
                CopyPlates x = new CopyPlates();
                long below = gap == 0 ? 0 : 0x7474747474747474L >>> 8 * (8 - gap);
                due.is("gap " + gap + ", above " + above, x.put(below | 0x74L << 8 * above), BAD_VALUE);
                due.is("count(14)", x.count(14), 0);
            }
        }
    }

    /** "a bit above 8 bits that are 0 is not 0": one bit is enough, the lowest and the highest. */
    private static void promise16OneBitAbove8BitsThatAre0() {
        CopyPlates x = new CopyPlates();
        due.is("bit 16", x.put(0x10074L), BAD_VALUE);
        due.is("bit 63", x.put(Long.MIN_VALUE | 0x74L), BAD_VALUE);
        due.is("bit 63 alone", x.put(Long.MIN_VALUE), BAD_VALUE);
        due.is("bit 32", x.put(0x100000074L), BAD_VALUE);
        due.is("no bit", x.put(0x74L), 1);
    }

    /** The greatest and the least numbers. */
    private static void promise16NumbersAtTheEnds() {
        CopyPlates x = new CopyPlates();
        due.is("put(-1)", x.put(-1L), BAD_VALUE);
        due.is("put(MIN)", x.put(Long.MIN_VALUE), BAD_VALUE);
        due.is("put(MAX)", x.put(Long.MAX_VALUE), BAD_VALUE);
        due.is("eight times 126", x.put(0x7E7E7E7E7E7E7E7EL), 8);
        due.is("eight times 33", x.put(0x2121212121212121L), 16);
    }

    /** Terms: "The pad is a text of at most 80 characters": 80 are in, "TOO_MANY if the pad would be longer". */
    private static void promise16UpTo80Characters() {
        CopyPlates x = withPad("t".repeat(72));
        due.is("80", x.put(Due.pack("tttttttt")), 80);
        due.is("81", x.put('t'), TOO_MANY);
        due.is("88", x.put(Due.pack("tttttttt")), TOO_MANY);
        due.is("count(14)", x.count(14), 80);
    }

    /** "TOO_MANY if the pad would be longer than 80": none of the characters is appended, those that fit neither. */
    private static void promise16NoneOfThemIsAppended() {
        CopyPlates x = withPad("t".repeat(79));
        due.is("81", x.put(Due.pack("tt")), TOO_MANY);
        due.is("count(14)", x.count(14), 79);
        due.is("80", x.put('t'), 80);
        CopyPlates y = withPad("t".repeat(73));
        due.is("81", y.put(Due.pack("tttttttt")), TOO_MANY);
        due.is("80", y.put(Due.pack("ttttttt")), 80);
    }

    /** put() is no change; Promise 20: undo() leaves the pad. */
    private static void promise16IsNoChange() {
        CopyPlates x = new CopyPlates();
        x.pass(1);
        x.put('t');
        due.is("count(15)", x.count(15), 1);
        x.undo();
        due.is("count(14)", x.count(14), 1);
    }

    // ---- promise 17

    /** "Empties the pad, and returns the length that it had": 0, 1 and 80. */
    private static void promise17Wipe() {
        int[] lengths = {0, 1, 80};
        for (int length : lengths) {
            CopyPlates x = new CopyPlates();
            Due.putText(x, "t".repeat(length));
            due.is("wipe()", x.wipe(), length);
            due.is("count(14)", x.count(14), 0);
            due.is("wipe() again", x.wipe(), 0);
        }
    }

    /** "Empties the pad": what is put then begins at the first place, and there is room for 80 again. */
    private static void promise17EmptyThen() {
        CopyPlates x = withPad("p".repeat(80));
        x.wipe();
        due.is("fault() of the empty text", x.fault(), 0);
        Due.putText(x, "t1");
        due.is("fault() of t1", x.fault(), NONE);
        due.is("80 again", Due.putText(x, "t".repeat(78)), 80);
    }

    /** wipe() is no change. */
    private static void promise17IsNoChange() {
        CopyPlates x = withPad("t1");
        x.wipe();
        due.is("count(15)", x.count(15), 0);
    }

    // ---- promise 18: texts without a fault

    /** "order = "+" .. | "p" number | "h" number | "k" number | "t" number": each one by itself. */
    private static void promise18EachOrder() {
        noFault("+0:1!1", "+0:1!1L", "p1", "h1", "k1", "t1");
    }

    /** "text = order { ";" order }": any order behind any other. */
    private static void promise18OrdersBehindOrders() {
        String[] orders = {"+0:1!1", "+0:1!1L", "p1", "h1", "k1", "t1"};
        for (String first : orders) {
            for (String second : orders) {
                noFault(first + ";" + second, first + ";" + second + ";" + first);
            }
        }
    }

    /** "a number 0 to 999": one, two and three digits, the ends, zeros that do not lead. */
    private static void promise18Numbers0To999() {
        String[] numbers = {"0", "1", "9", "10", "90", "99", "100", "101", "900", "998", "999"};
        for (String number : numbers) {
            noFault("p" + number, "h" + number, "k" + number, "t" + number, "+0:" + number + "!0",
                "t" + number + ";t" + number);
        }
    }

    /** "A digit is 0 to 4 for a desk, 0 to 9 for a rank": each one that may stand. */
    private static void promise18DigitsThatMayStand() {
        for (int digit = 0; digit <= 9; digit++) {
            noFault("+0:1!" + digit, "+0:1!" + digit + "L");
        }
        for (int digit = 0; digit <= 4; digit++) {
            noFault("+" + digit + ":1!1");
        }
    }

    /** "at most 80 characters": a text of 80 without a fault, whose last character ends an order. */
    private static void promise18TextOf80Characters() {
        noFault("t1;".repeat(26) + "t1", "+0:1!1;".repeat(11) + "p10", "+4:99!9L;".repeat(8) + "+4:999!9");
    }

    // ---- promise 18: faults

    /** "(also if it is empty), it is the length of the text": 0. */
    private static void promise18EmptyText() {
        due.is("fault()", new CopyPlates().fault(), 0);
    }

    /** "the text ends too early": each beginning of an order. */
    private static void promise18TextEndsTooEarlyInAnOrder() {
        String[] texts = {"+", "+0", "+0:", "+0:1", "+0:12", "+0:123", "+0:1!", "p", "h", "k", "t"};
        for (String text : texts) {
            fault(text, text.length());
            fault("t1;" + text, 3 + text.length());
        }
    }

    /** "the text ends too early": behind ";". */
    private static void promise18TextEndsTooEarlyBehindASemicolon() {
        fault("t1;", 3);
        fault("+0:1!1;", 7);
        fault("+0:1!1L;", 8);
        fault("t1;t1;", 6);
    }

    /** "the text ends too early": at 80 characters the fault is 80. */
    private static void promise18TextOf80CharactersEndsTooEarly() {
        fault("t10;".repeat(20), 80);
        fault("t1;".repeat(25) + "t100;", 80);
        fault("t1;".repeat(25) + "t10;t", 80);
    }

    /** "the first character that cannot stand at its place": the first one of an order. */
    private static void promise18FirstCharacterOfAnOrder() {
        String[] wrong = {"!", "~", "0", "4", ":", ";", "L", "P", "H", "K", "T", "-", "q", "o", "s", "u", "g", "i", "j",
            "l"};
        for (String character : wrong) {
            fault(character + "1", 0);
            fault("t1;" + character + "1", 3);
        }
    }

    /** "without leading zeros": a digit behind a 0 cannot stand. */
    private static void promise18LeadingZeros() {
        String[] orders = {"p", "h", "k", "t"};
        for (String order : orders) {
            fault(order + "00", 2);
            fault(order + "01", 2);
            fault(order + "09", 2);
            fault(order + "000", 2);
        }
        fault("+0:00!1", 4);
        fault("+0:01!1", 4);
        fault("+0:099!1", 4);
        fault("t1;t01", 5);
    }

    /** "(also of a digit by which a number would be above 999)": the fourth digit. */
    private static void promise18NumbersAbove999() {
        String[] orders = {"p", "h", "k", "t"};
        for (String order : orders) {
            fault(order + "1000", 4);
            fault(order + "9990", 4);
            fault(order + "9999", 4);
            fault(order + "12345", 4);
        }
        fault("+0:1000!1", 6);
        fault("+0:9999!1", 6);
        fault("t1;t1000", 7);
    }

    /** "number": there is at least one digit; nothing else can stand there. */
    private static void promise18NumberWithoutADigit() {
        String[] wrong = {";", "!", "L", "a", "-", "+", "/", ":"};
        for (String character : wrong) {
            fault("t" + character, 1);
            fault("+0:" + character, 3);
        }
        fault("t-1", 1);
    }

    /** "number": behind its digits only ";" can stand, or the end; in "+" only "!". */
    private static void promise18BehindANumber() {
        fault("p1L", 2);
        fault("p1p2", 2);
        fault("p12/", 3);
        fault("p999:", 4);
        fault("p0!", 2);
        fault("+0:1;", 4);
        fault("+0:12:1", 5);
        fault("+0:999L", 6);
        fault("+0:0p", 4);
    }

    /** "A digit is 0 to 4 for a desk": 5 to 9, and what is no digit, cannot stand. */
    private static void promise18DeskAbove4() {
        for (int digit = 5; digit <= 9; digit++) {
            fault("+" + digit + ":1!1", 1);
        }
        fault("+/:1!1", 1);
        fault("+::1!1", 1);
        fault("+L:1!1", 1);
    }

    /** ""+" digit ":"": one digit, and ":" alone behind it. */
    private static void promise18BehindADesk() {
        fault("+00:1!1", 2);
        fault("+0!1!1", 2);
        fault("+0;", 2);
        fault("+01", 2);
    }

    /** ""!" digit": a rank is one digit. */
    private static void promise18Rank() {
        fault("+0:1!L", 5);
        fault("+0:1!;", 5);
        fault("+0:1!/", 5);
        fault("+0:1!:", 5);
        fault("+0:1!10", 6);
        fault("+0:1!00", 6);
    }

    /** "[ "L" ]": once, as a capital, behind a rank alone. */
    private static void promise18Legal() {
        fault("+0:1!1l", 6);
        fault("+0:1!1LL", 7);
        fault("+0:1!1L1", 7);
        fault("+0:1L!1", 4);
        fault("t1L", 2);
    }

    /** "{ ";" order }": one ";" between two orders, nothing else. */
    private static void promise18BetweenOrders() {
        fault("t1;;t1", 3);
        fault("t1,t1", 2);
        fault("t1:t1", 2);
        fault("+0:1!1p1", 6);
        fault("+0:1!1Lp1", 7);
        fault("t0t1", 2);
    }

    /** "the first character": of several faults the first one. */
    private static void promise18FirstOfSeveralFaults() {
        fault("t00;x;t1000", 2);
        fault("x;t00", 0);
        fault("t1;+5:00!1", 4);
        fault("t1x;", 2);
    }

    /** "the index of the first character ..": counted from 0 over the whole text, up to 79. */
    private static void promise18FaultAtTheLastCharacter() {
        fault("t1;".repeat(26) + "tt", 79);
        fault("t1;".repeat(26) + "t;", 79);
        fault("t1;".repeat(26) + "x1", 78);
        fault("t1;".repeat(25) + "t1000", 79);
    }

    /** "Returns the fault of the pad": it changes neither the pad nor the night, and answers the same again. */
    private static void promise18ChangesNothing() {
        CopyPlates x = withPad("t1;p5;k");
        due.is("fault()", x.fault(), 7);
        due.is("fault()", x.fault(), 7);
        due.is("count(14)", x.count(14), 7);
        due.is("count(15)", x.count(15), 0);
        due.is("count(0)", x.count(0), 0);
        x.put('0');
        due.is("fault()", x.fault(), NONE);
        due.is("count(2)", x.count(2), 0);
    }

    // ---- promise 19

    private static CopyPlates carriedOut(String text, int orders) {
        CopyPlates x = withPad(text);
        due.is("carryOut() of '" + text + "'", x.carryOut(), orders);
        return x;
    }

    /** Terms: ""+": piece() of a desk, with lines and a rank, legal if "L" is told". */
    private static void promise19OrderPiece() {
        CopyPlates x = carriedOut("+4:99!9L;+0:1!0", 2);
        int[][] facts = {{4, 99, 9, 1}, {0, 1, 0, 0}};
        for (int piece = 0; piece < 2; piece++) {
            for (int what = 0; what < 4; what++) {
                due.is("ofPiece(" + piece + ", " + what + ")", x.ofPiece(piece, what), facts[piece][what]);
            }
        }
    }

    /** Terms: ""p": plate() at a minute". */
    private static void promise19OrderPlate() {
        CopyPlates x = carriedOut("p599;p0", 2);
        due.is("ofPlate(0, 0)", x.ofPlate(0, 0), 0);
        due.is("ofPlate(1, 0)", x.ofPlate(1, 0), 599);
    }

    /** Terms: ""h": hold() of a piece, the other way round". */
    private static void promise19OrderHold() {
        CopyPlates x = carriedOut("+0:1!1;+0:1!1;h1", 3);
        due.is("ofPiece(0, 5)", x.ofPiece(0, 5), 0);
        due.is("ofPiece(1, 5)", x.ofPiece(1, 5), 1);
        Due.putText(x, "h1;h0");
        due.is("carryOut()", x.carryOut(), 2);
        due.is("ofPiece(0, 5)", x.ofPiece(0, 5), 1);
        due.is("ofPiece(1, 5)", x.ofPiece(1, 5), 0);
    }

    /** Terms: ""k": kill() it", with the replate that it tells. */
    private static void promise19OrderKill() {
        CopyPlates x = carriedOut("+0:1!1;+1:9!1;p0;t1;k0;k1", 6);
        due.is("ofPiece(0, 4)", x.ofPiece(0, 4), 3);
        due.is("ofPiece(1, 4)", x.ofPiece(1, 4), 3);
        due.is("count(9)", x.count(9), 1);
        due.is("ofPlate(1, 0)", x.ofPlate(1, 0), 6);
    }

    /** Terms: ""t": pass() minutes". */
    private static void promise19OrderPass() {
        CopyPlates x = carriedOut("p3;t1;t599", 3);
        due.is("count(0)", x.count(0), 600);
        due.is("count(3)", x.count(3), 1);
    }

    /** "up to the first one that returns an error": the ones behind it are not carried out. */
    private static void promise19UpToTheFirstError() {
        CopyPlates x = carriedOut("p7;p7;p8;t5", 1);
        due.is("count(2)", x.count(2), 1);
        due.is("count(0)", x.count(0), 0);
        CopyPlates y = carriedOut("t600;t1;+0:1!1", 1);
        due.is("count(0)", y.count(0), 600);
        due.is("count(1)", y.count(1), 0);
    }

    /** "the first one that returns an error": each error of each order, as the first one. */
    private static void promise19EachError() {
        String[] texts = {"+0:0!1", "+0:100!1", "+0:999!1", "p600", "p999", "h0", "h999", "k0", "k999", "t0", "t601",
            "t999"};
        for (String text : texts) {
            CopyPlates x = carriedOut(text + ";+0:1!1", 0);
            due.is("count(1) behind '" + text + "'", x.count(1), 0);
        }
    }

    /** "the first one that returns an error": each error of each order, behind others. */
    private static void promise19EachErrorBehindOthers() {
        String[] texts = {"+0:1!1;k0;k0", "+0:1!1;k0;h0", "t1;t1;p1", "t1;t1;t599", "p9;p8;p9", "h0", "+0:1!1;t600;t1"};
        int[] orders = {2, 2, 2, 2, 2, 0, 2};
        for (int i = 0; i < texts.length; i++) {
            carriedOut(texts[i] + ";t1", orders[i]);
        }
    }

    /** TOO_MANY is an error of an order, too: the ninth plate, the 25th piece. */
    private static void promise19TooManyInAText() {
        CopyPlates x = carriedOut("p1;p2;p3;p4;p5;p6;p7;p8;p9;t1", 8);
        due.is("count(2)", x.count(2), 8);
        due.is("count(0)", x.count(0), 0);
        CopyPlates y = new CopyPlates();
        for (int i = 0; i < 22; i++) {
            y.piece(0, 1, 5, 0);
        }
        Due.putText(y, "+0:1!1;+0:1!1;+0:1!1;t1");
        due.is("carryOut()", y.carryOut(), 2);
        due.is("count(1)", y.count(1), 24);
        due.is("count(0)", y.count(0), 0);
    }

    /** An order that returns 0 is no error: a kill without a replate, a hold that ends, minutes without a plate. */
    private static void promise19ZeroIsNoError() {
        CopyPlates x = carriedOut("+0:1!1;h0;h0;k0;t1;p9", 6);
        due.is("count(2)", x.count(2), 1);
    }

    /** "and empties the pad": if all are carried out, if some are, and if none is. */
    private static void promise19EmptiesThePad() {
        due.is("all", carriedOut("p1;p2", 2).count(14), 0);
        due.is("some", carriedOut("p1;p1;p2", 1).count(14), 0);
        due.is("none", carriedOut("t0;p1", 0).count(14), 0);
    }

    /** "This is a change (one, with all of them": undone in one. */
    private static void promise19IsOneChange() {
        CopyPlates x = new CopyPlates();
        x.piece(0, 9, 5, 0);
        String before = Due.stateOf(x);
        Due.putText(x, "t1;h0;p9;+1:1!1;k0;t0");
        due.is("carryOut()", x.carryOut(), 5);
        due.is("count(15)", x.count(15), 2);
        due.is("undo()", x.undo(), 1);
        due.same("the night", Due.stateOf(x), before);
    }

    /** "also if none is carried out)": a change nevertheless. */
    private static void promise19IsAChangeIfNoneIsCarriedOut() {
        CopyPlates x = carriedOut("t0", 0);
        due.is("count(15)", x.count(15), 1);
        due.is("undo()", x.undo(), 0);
    }

    /** "Returns how many orders were carried out": 0, 1, and 27, as many as 80 characters hold. */
    private static void promise19ReturnsHowManyOrders() {
        carriedOut("t0", 0);
        carriedOut("t1", 1);
        CopyPlates x = carriedOut("t1;".repeat(26) + "t1", 27);
        due.is("count(0)", x.count(0), 27);
    }

    /** "BAD_TEXT if the pad has a fault": nothing is carried out, not even what stands ahead of the fault. */
    private static void promise19BadText() {
        CopyPlates x = withPad("t1;p9;t01");
        due.is("carryOut()", x.carryOut(), BAD_TEXT);
        due.is("count(0)", x.count(0), 0);
        due.is("count(2)", x.count(2), 0);
        due.is("count(15)", x.count(15), 0);
    }

    /** "BAD_TEXT if the pad has a fault": a text that ends too early has one. */
    private static void promise19BadTextThatEndsTooEarly() {
        due.is("carryOut()", withPad("t1;").carryOut(), BAD_TEXT);
        due.is("carryOut()", withPad("t1;p").carryOut(), BAD_TEXT);
        due.is("carryOut()", withPad("+0:1").carryOut(), BAD_TEXT);
    }

    /** "BAD_TEXT if the pad has a fault": the empty text has one. */
    private static void promise19BadTextThatIsEmpty() {
        CopyPlates x = new CopyPlates();
        due.is("carryOut()", x.carryOut(), BAD_TEXT);
        due.is("count(15)", x.count(15), 0);
        Due.putText(x, "t1");
        due.is("carryOut()", x.carryOut(), 1);
        due.is("carryOut()", x.carryOut(), BAD_TEXT);
    }

    /** "(then it stays)": the pad can be ended, and carried out then. */
    private static void promise19PadWithAFaultStays() {
        CopyPlates x = withPad("t1;p");
        due.is("carryOut()", x.carryOut(), BAD_TEXT);
        due.is("count(14)", x.count(14), 4);
        due.is("put(7)", x.put('7'), 5);
        due.is("carryOut()", x.carryOut(), 2);
        due.is("ofPlate(0, 0)", x.ofPlate(0, 0), 7);
    }
}
