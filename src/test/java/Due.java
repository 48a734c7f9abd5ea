/** Compares answers with those that are due; used by every test. */
final class Due {
    private static final int MOST_TOLD = 40;

    private int wrong = 0;
    private int right = 0;

    void is(String call, long got, long want) {
        if (got == want) {
            right++;
            return;
        }
        wrong++;
        if (wrong <= MOST_TOLD) {
            System.out.println(call + " answered " + got + ", due is " + want);
        }
    }

    boolean allRight() {
        return wrong == 0;
    }

    void end() {
        System.out.println(right + " answers as due, " + wrong + " not");
        if (wrong != 0 || right == 0) {
            System.exit(1);
        }
    }

    /** Puts a text on the pad, up to eight characters a call; answers what the last call did. */
    static int putText(CopyPlates x, String text) {
        int answer = 0;
        for (int from = 0; from < text.length(); from += 8) {
            answer = x.put(pack(text.substring(from, Math.min(from + 8, text.length()))));
        }
        return answer;
    }

    static long pack(String text) {
        long packed = 0;
        for (int i = 0; i < text.length(); i++) {
            packed = packed << 8 | text.charAt(i);
        }
        return packed;
    }

    /** Everything that can be asked about a night but its pad, as one text. */
    static String stateOf(CopyPlates x) {
        StringBuilder all = new StringBuilder();
        for (int what = 0; what <= 13; what++) {
            all.append(x.count(what)).append(' ');
        }
        for (int piece = 0; piece < x.count(1); piece++) {
            all.append('\n');
            for (int what = 0; what <= 10; what++) {
                all.append(x.ofPiece(piece, what)).append(' ');
            }
        }
        for (int plate = 0; plate < x.count(2); plate++) {
            all.append('\n');
            for (int what = 0; what <= 4; what++) {
                all.append(x.ofPlate(plate, what)).append(' ');
            }
        }
        return all.toString();
    }
}
