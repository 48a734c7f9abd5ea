/** Promises 16 to 19: texts. */
public final class TextsTest {
    private static final Due due = new Due();

    public static void main(String[] args) {
        promise16Put();
        promise16Refuses();
        promise16MostCharacters();
        promise17Wipe();
        promise18TextsWithoutFault();
        promise18Faults();
        promise18LongTexts();
        promise19OrdersAreCalls();
        promise19StopsAtTheFirstError();
        promise19IsOneChange();
        promise19BadText();
        due.end();
    }

    private static void promise16Put() {
        CopyPlates x = new CopyPlates();
        due.is("16: one", x.put('p'), 1);
        due.is("16: two more", x.put(Due.pack("12")), 3);
        due.is("16: length", x.count(14), 3);
        due.is("16: in their order", x.carryOut(), 1);
        due.is("16: in their order", x.ofPlate(0, 0), 12);
        due.is("16: eight", x.put(Due.pack("p3;p4;p5")), 8);
        due.is("16: in their order", x.carryOut(), 3);
        due.is("16: in their order", x.ofPlate(2, 0), 5);
        due.is("16: the least code", x.put(33), 1);
        due.is("16: the greatest code", x.put(126), 2);
        due.is("16: eight of the greatest", x.put(0x7E7E7E7E7E7E7E7EL), 10);
        due.is("16: no change", x.count(15), 2);
    }

    private static void promise16Refuses() {
        CopyPlates x = new CopyPlates();
        long[] wrong = {0, 32, 127, 128, 255, 256, -1, Long.MIN_VALUE, Long.MAX_VALUE, 0x7000, 0x700070,
            0x2070, 0x7020, 0x7F70, 0x7000000000000070L, 0x8070707070707070L, 0x2070707070707070L,
            0x7070707070707000L, 0x0170707070707070L};
        for (long characters : wrong) {
            due.is("16: put(" + characters + ")", x.put(characters), CopyPlates.BAD_VALUE);
        }
        due.is("16: nothing came", x.count(14), 0);
    }

    private static void promise16MostCharacters() {
        CopyPlates x = new CopyPlates();
        for (int i = 1; i <= 9; i++) {
            due.is("16: put", x.put(Due.pack("pppppppp")), 8 * i);
        }
        due.is("16: 79", x.put(Due.pack("ppppppp")), 79);
        due.is("16: 81", x.put(Due.pack("pp")), CopyPlates.TOO_MANY);
        due.is("16: still 79", x.count(14), 79);
        due.is("16: 80", x.put('p'), 80);
        due.is("16: 81", x.put('p'), CopyPlates.TOO_MANY);
        due.is("16: value ahead of too many", x.put(0), CopyPlates.BAD_VALUE);
        due.is("16: length", x.wipe(), 80);
    }

    private static void promise17Wipe() {
        CopyPlates x = new CopyPlates();
        due.is("17: empty", x.wipe(), 0);
        Due.putText(x, "p1;p2");
        due.is("17: its length", x.wipe(), 5);
        due.is("17: empty then", x.count(14), 0);
        due.is("17: again", x.wipe(), 0);
        due.is("17: put behind", x.put('k'), 1);
        due.is("17: nothing of before", x.fault(), 1);
        due.is("17: no change", x.count(15), 0);
    }

    private static int faultOf(String text) {
        CopyPlates x = new CopyPlates();
        Due.putText(x, text);
        int length = x.count(14);
        int fault = x.fault();
        due.is("18: fault leaves the pad", x.count(14), length);
        return fault;
    }

    private static void promise18TextsWithoutFault() {
        String[] texts = {"p0", "p999", "h7", "k12", "t600", "+0:0!0", "+4:999!9L", "+2:10!5",
            "p1;h2;k3;t4;+0:1!1L;+1:2!2", "t1;t1;t1;t1;t1"};
        for (String text : texts) {
            due.is("18: fault of " + text, faultOf(text), CopyPlates.NONE);
        }
    }

    private static void promise18Faults() {
        String[] texts = {"", "p", "p1;", "+", "+0", "+0:", "+0:5", "+0:5!", "x", "P1", ";", "p;", "p1;;p1",
            "p01", "p00", "p1000", "p9990", "p12345", "+5:1!1", "+9:1!1", "+a", "+0!", "+0:!", "+0:01!1",
            "+0:1000!1", "+0:1:", "+0:1!a", "+0:1!12", "+0:1!1l", "+0:1!1LL", "+0:1!1L;", "p1L", "p1p", "h-1"};
        int[] faults = {0, 1, 3, 1, 2, 3, 4, 5, 0, 0, 0, 1, 3,
            2, 2, 4, 4, 4, 1, 1, 1, 2, 3, 4,
            6, 4, 5, 6, 6, 7, 8, 2, 2, 1};
        for (int i = 0; i < texts.length; i++) {
            due.is("18: fault of '" + texts[i] + "'", faultOf(texts[i]), faults[i]);
        }
    }

    private static void promise18LongTexts() {
        StringBuilder orders = new StringBuilder("t1");
        for (int i = 0; i < 26; i++) {
            orders.append(";t1");
        }
        due.is("18: 80 characters", orders.length(), 80);
        due.is("18: 27 orders", faultOf(orders.toString()), CopyPlates.NONE);
        orders.setCharAt(78, 'L');
        due.is("18: at the end", faultOf(orders.toString()), 78);
        orders.setCharAt(78, 't');
        orders.setCharAt(79, ';');
        due.is("18: at the last one", faultOf(orders.toString()), 79);
        CopyPlates x = new CopyPlates();
        orders.setCharAt(79, '1');
        Due.putText(x, orders.toString());
        due.is("19: all 27", x.carryOut(), 27);
        due.is("19: all 27", x.count(0), 27);
    }

    private static void promise19OrdersAreCalls() {
        CopyPlates x = new CopyPlates();
        Due.putText(x, "+3:17!8L;+0:4!0;p30;h1;t2;h1;h0;k1");
        due.is("19: orders", x.carryOut(), 8);
        due.is("19: the pad is empty", x.count(14), 0);
        CopyPlates y = new CopyPlates();
        y.piece(3, 17, 8, 1);
        y.piece(0, 4, 0, 0);
        y.plate(30);
        y.hold(1);
        y.pass(2);
        y.hold(1);
        y.hold(0);
        y.kill(1);
        due.is("19: as by calls", Due.stateOf(x).equals(Due.stateOf(y)) ? 1 : 0, 1);
    }

    private static void promise19StopsAtTheFirstError() {
        String[] texts = {"t0;p1", "p1;p1;p2", "p1;t600;t1", "p1;+0:0!1;p2", "+0:1!1;+0:100!1;+0:1!1", "h0", "k0",
            "+0:1!1;k0;h0;t1", "p600", "+0:9!1;k1", "t601"};
        int[] carried = {0, 1, 2, 1, 1, 0, 0, 2, 0, 1, 0};
        for (int i = 0; i < texts.length; i++) {
            CopyPlates x = new CopyPlates();
            Due.putText(x, texts[i]);
            due.is("19: carryOut of " + texts[i], x.carryOut(), carried[i]);
            due.is("19: the pad is empty behind " + texts[i], x.count(14), 0);
            due.is("19: one change by " + texts[i], x.count(15), 1);
        }
        CopyPlates x = new CopyPlates();
        Due.putText(x, "p1;p1;p2");
        x.carryOut();
        due.is("19: none behind the error", x.count(2), 1);
    }

    private static void promise19IsOneChange() {
        CopyPlates x = new CopyPlates();
        x.piece(0, 1, 1, 0);
        String before = Due.stateOf(x);
        Due.putText(x, "p0;t1;k0;t6;t0");
        due.is("19: orders", x.carryOut(), 4);
        due.is("19: changes", x.count(15), 2);
        due.is("19: replate", x.count(9), 1);
        due.is("19: undo", x.undo(), 1);
        due.is("19: all undone", before.equals(Due.stateOf(x)) ? 1 : 0, 1);
        due.is("19: the pad stays empty", x.count(14), 0);
    }

    private static void promise19BadText() {
        CopyPlates x = new CopyPlates();
        due.is("19: empty", x.carryOut(), CopyPlates.BAD_TEXT);
        Due.putText(x, "p1;p2;p");
        due.is("19: fault", x.carryOut(), CopyPlates.BAD_TEXT);
        due.is("19: the pad stays", x.count(14), 7);
        due.is("19: no order is carried out", x.count(2), 0);
        due.is("19: no change", x.count(15), 0);
        x.put('3');
        due.is("19: then", x.carryOut(), 3);
        due.is("19: empty again", x.carryOut(), CopyPlates.BAD_TEXT);
    }
}
