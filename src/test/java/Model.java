import java.util.ArrayList;
import java.util.Comparator;
import java.util.List;
import java.util.regex.Matcher;
import java.util.regex.Pattern;

/**
 * The document once more, written in another way than the program: with rows for the queues, a sort for the
 * rank, whole copies for undo, and a pattern for the texts. ModelTest compares the two.
 */
final class Model {
    private static final Pattern TEXT = textPattern();
    private static final int[][] RANGES = {{1, 20}, {1, 60}, {10, 400}, {1, 60}};

    private static final class Copy {
        int number, desk, lines, rank, legal, state, held, edited, read;
        int ready = -6;

        Copy twin() {
            Copy c = new Copy();
            c.number = number;
            c.desk = desk;
            c.lines = lines;
            c.rank = rank;
            c.legal = legal;
            c.state = state;
            c.held = held;
            c.edited = edited;
            c.read = read;
            c.ready = ready;
            return c;
        }
    }

    private static final class Sheet {
        int minute, made, replate, lines;
        List<Integer> on = new ArrayList<>();
    }

    private static final class State {
        int[] settings = {4, 10, 60, 5};
        int now;
        List<Copy> copies = new ArrayList<>();
        List<Sheet> sheets = new ArrayList<>();
        List<List<Integer>> queues = new ArrayList<>();

        State() {
            for (int i = 0; i < 6; i++) {
                queues.add(new ArrayList<>());
            }
        }

        State twin() {
            State s = new State();
            s.settings = settings.clone();
            s.now = now;
            for (Copy c : copies) {
                s.copies.add(c.twin());
            }
            for (Sheet sheet : sheets) {
                Sheet t = new Sheet();
                t.minute = sheet.minute;
                t.made = sheet.made;
                t.replate = sheet.replate;
                t.lines = sheet.lines;
                t.on.addAll(sheet.on);
                s.sheets.add(t);
            }
            for (int i = 0; i < 6; i++) {
                s.queues.get(i).addAll(queues.get(i));
            }
            return s;
        }

        boolean minute() {
            for (int desk = 0; desk < 5; desk++) {
                if (queues.get(desk).isEmpty()) {
                    continue;
                }
                Copy c = copies.get(queues.get(desk).get(0));
                c.edited = Math.min(c.lines, c.edited + settings[0]);
                if (c.edited == c.lines) {
                    queues.get(desk).remove(0);
                    if (c.legal == 1) {
                        c.state = 1;
                        queues.get(5).add(c.number);
                    } else {
                        c.state = 2;
                        c.ready = now;
                    }
                }
            }
            if (!queues.get(5).isEmpty()) {
                Copy c = copies.get(queues.get(5).get(0));
                c.read++;
                if (c.read >= settings[1]) {
                    queues.get(5).remove(0);
                    c.state = 2;
                    c.ready = now;
                }
            }
            boolean made = false;
            for (Sheet sheet : sheets) {
                if (sheet.minute == now) {
                    made = true;
                    sheet.made = 1;
                    for (Copy c : taken(settings[2])) {
                        sheet.on.add(c.number);
                        sheet.lines += c.lines;
                    }
                }
            }
            now++;
            return made;
        }

        List<Copy> inOrder() {
            List<Copy> row = new ArrayList<>();
            for (Copy c : copies) {
                if (c.state == 2 && c.held == 0) {
                    row.add(c);
                }
            }
            row.sort(Comparator.comparingInt((Copy c) -> -c.rank).thenComparingInt(c -> c.ready)
                .thenComparingInt(c -> c.number));
            return row;
        }

        List<Copy> taken(int room) {
            List<Copy> row = new ArrayList<>();
            int left = room;
            for (Copy c : inOrder()) {
                if (c.lines <= left) {
                    left -= c.lines;
                    row.add(c);
                }
            }
            return row;
        }

        Sheet nextDue() {
            for (Sheet sheet : sheets) {
                if (sheet.made == 0) {
                    return sheet;
                }
            }
            return null;
        }

        void insert(int minute, int replate) {
            Sheet sheet = new Sheet();
            sheet.minute = minute;
            sheet.replate = replate;
            sheets.add(sheet);
            sheets.sort(Comparator.comparingInt((Sheet s) -> s.minute));
        }
    }

    private State s = new State();
    private final List<State> history = new ArrayList<>();
    private final State[] slots = new State[2];
    private String pad = "";

    private void record(State before) {
        history.add(before);
        if (history.size() > 6) {
            history.remove(0);
        }
    }

    private int change(State before, int answer) {
        if (answer >= 0) {
            record(before);
        }
        return answer;
    }

    int set(int setting, int value) {
        if (setting < 0 || setting > 3 || value < RANGES[setting][0] || value > RANGES[setting][1]) {
            return -2;
        }
        record(s.twin());
        int before = s.settings[setting];
        s.settings[setting] = value;
        return before;
    }

    int piece(int desk, int lines, int rank, int legal) {
        return change(s.twin(), doPiece(desk, lines, rank, legal));
    }

    private int doPiece(int desk, int lines, int rank, int legal) {
        if (desk < 0 || desk > 4) {
            return -1;
        }
        if (lines < 1 || lines > 99 || rank < 0 || rank > 9 || (legal != 0 && legal != 1)) {
            return -2;
        }
        if (s.copies.size() == 24) {
            return -4;
        }
        Copy c = new Copy();
        c.number = s.copies.size();
        c.desk = desk;
        c.lines = lines;
        c.rank = rank;
        c.legal = legal;
        s.copies.add(c);
        s.queues.get(desk).add(c.number);
        return c.number;
    }

    int plate(int minute) {
        return change(s.twin(), doPlate(minute));
    }

    private int doPlate(int minute) {
        if (minute < s.now || minute > 599) {
            return -2;
        }
        if (s.sheets.size() == 8) {
            return -4;
        }
        for (Sheet sheet : s.sheets) {
            if (sheet.minute == minute) {
                return -5;
            }
        }
        s.insert(minute, 0);
        for (int i = 0; i < s.sheets.size(); i++) {
            if (s.sheets.get(i).minute == minute) {
                return i;
            }
        }
        throw new IllegalStateException();
    }

    int hold(int piece) {
        return change(s.twin(), doHold(piece));
    }

    private int doHold(int piece) {
        if (piece < 0 || piece >= s.copies.size()) {
            return -1;
        }
        Copy c = s.copies.get(piece);
        if (c.state == 3) {
            return -5;
        }
        c.held = 1 - c.held;
        return c.held;
    }

    int kill(int piece) {
        return change(s.twin(), doKill(piece));
    }

    private int doKill(int piece) {
        if (piece < 0 || piece >= s.copies.size()) {
            return -1;
        }
        Copy c = s.copies.get(piece);
        if (c.state == 3) {
            return -5;
        }
        c.state = 3;
        for (List<Integer> queue : s.queues) {
            queue.remove((Integer) piece);
        }
        Sheet latest = null;
        for (Sheet sheet : s.sheets) {
            if (sheet.made == 1) {
                latest = sheet;
            }
        }
        if (latest == null || !latest.on.contains(piece)) {
            return 0;
        }
        int last = s.now + s.settings[3];
        for (Sheet sheet : s.sheets) {
            if (sheet.made == 0 && sheet.minute >= s.now && sheet.minute <= last) {
                return 0;
            }
        }
        if (s.sheets.size() == 8 || last > 599) {
            return 0;
        }
        s.insert(last, 1);
        return 1;
    }

    int pass(int minutes) {
        return change(s.twin(), doPass(minutes));
    }

    private int doPass(int minutes) {
        if (minutes < 1) {
            return -2;
        }
        if ((long) s.now + minutes > 600) {
            return -5;
        }
        int made = 0;
        for (int i = 0; i < minutes; i++) {
            if (s.minute()) {
                made++;
            }
        }
        return made;
    }

    private static int setOf(List<Integer> numbers) {
        int set = 0;
        for (int number : numbers) {
            set += 1 << number;
        }
        return set;
    }

    private static int setOfCopies(List<Copy> copies) {
        int set = 0;
        for (Copy c : copies) {
            set += 1 << c.number;
        }
        return set;
    }

    int ofPiece(int piece, int what) {
        if (piece < 0 || piece >= s.copies.size()) {
            return -1;
        }
        if (what < 0 || what > 10) {
            return -2;
        }
        Copy c = s.copies.get(piece);
        if (what == 8) {
            for (List<Integer> queue : s.queues) {
                if (queue.contains(piece)) {
                    return queue.indexOf(piece);
                }
            }
            return -6;
        }
        if (what == 10) {
            int set = 0;
            for (int i = 0; i < s.sheets.size(); i++) {
                if (s.sheets.get(i).on.contains(piece)) {
                    set |= 1 << i;
                }
            }
            return set;
        }
        int[] facts = {c.desk, c.lines, c.rank, c.legal, c.state, c.held, c.edited, c.read, 0, c.ready};
        return facts[what];
    }

    int ofPlate(int plate, int what) {
        if (plate < 0 || plate >= s.sheets.size()) {
            return -1;
        }
        if (what < 0 || what > 4) {
            return -2;
        }
        Sheet sheet = s.sheets.get(plate);
        int[] facts = {sheet.minute, sheet.made, sheet.replate, setOf(sheet.on), sheet.lines};
        return facts[what];
    }

    int count(int what) {
        if (what < 0 || what > 15) {
            return -2;
        }
        int[] states = new int[4];
        int held = 0;
        for (Copy c : s.copies) {
            states[c.state]++;
            held += c.state == 3 ? 0 : c.held;
        }
        int made = 0;
        int replates = 0;
        for (Sheet sheet : s.sheets) {
            made += sheet.made;
            replates += sheet.replate;
        }
        int[] counts = {s.now, s.copies.size(), s.sheets.size(), made, states[0], states[1], states[2], states[3], held,
            replates, s.settings[0], s.settings[1], s.settings[2], s.settings[3], pad.length(), history.size()};
        return counts[what];
    }

    int why(int piece, int what) {
        if (piece < 0 || piece >= s.copies.size()) {
            return -1;
        }
        if (what != 0 && what != 1) {
            return -2;
        }
        Copy c = s.copies.get(piece);
        List<Copy> taken = s.taken(s.settings[2]);
        int reason;
        int cause = -6;
        if (c.state == 3) {
            reason = 1;
        } else if (c.held == 1) {
            reason = 2;
        } else if (c.state == 0) {
            reason = 3;
            cause = s.queues.get(c.desk).get(0);
        } else if (c.state == 1) {
            reason = 4;
            cause = s.queues.get(5).get(0);
        } else if (taken.contains(c)) {
            reason = 0;
        } else {
            reason = 5;
            for (Copy other : s.inOrder()) {
                if (other == c) {
                    break;
                }
                if (taken.contains(other)) {
                    cause = other.number;
                }
            }
        }
        return what == 0 ? reason : cause;
    }

    int plateNow() {
        return setOfCopies(s.taken(s.settings[2]));
    }

    int readyIn(int piece) {
        if (piece < 0 || piece >= s.copies.size()) {
            return -1;
        }
        if (s.copies.get(piece).state == 3) {
            return -5;
        }
        State t = s.twin();
        int minutes = 0;
        while (t.copies.get(piece).state != 2) {
            t.minute();
            minutes++;
        }
        return minutes > 2000 ? -6 : minutes;
    }

    int leastRoom() {
        if (s.nextDue() == null) {
            return -5;
        }
        for (int room = 10; room <= 400; room++) {
            State t = s.twin();
            t.settings[2] = room;
            Sheet sheet = t.nextDue();
            while (sheet.made == 0) {
                t.minute();
            }
            if (sheet.on.size() == t.inOrder().size()) {
                return room;
            }
        }
        return -6;
    }

    int nextPlate() {
        if (s.nextDue() == null) {
            return -5;
        }
        State t = s.twin();
        Sheet sheet = t.nextDue();
        while (sheet.made == 0) {
            t.minute();
        }
        return setOf(sheet.on);
    }

    int put(long characters) {
        String text = "";
        boolean ended = false;
        for (int i = 0; i < 8; i++) {
            int code = (int) (characters >> 8 * i & 255);
            if (code == 0) {
                ended = true;
            } else if (ended || code < 33 || code > 126) {
                return -2;
            } else {
                text = (char) code + text;
            }
        }
        if (text.isEmpty()) {
            return -2;
        }
        if (pad.length() + text.length() > 80) {
            return -4;
        }
        pad += text;
        return pad.length();
    }

    int wipe() {
        int length = pad.length();
        pad = "";
        return length;
    }

    private static Pattern textPattern() {
        String number = "(?:0|[1-9][0-9]{0,2})";
        String order = "(?:\\+[0-4]:" + number + "![0-9]L?|[phkt]" + number + ")";
        return Pattern.compile(order + "(?:;" + order + ")*");
    }

    /** The first character with which the text so far is the beginning of no text. */
    int fault() {
        for (int length = 1; length <= pad.length(); length++) {
            Matcher m = TEXT.matcher(pad.substring(0, length));
            if (!m.matches() && !m.hitEnd()) {
                return length - 1;
            }
        }
        return TEXT.matcher(pad).matches() ? -6 : pad.length();
    }

    int carryOut() {
        if (fault() != -6) {
            return -3;
        }
        record(s.twin());
        int carried = 0;
        for (String order : pad.split(";")) {
            if (doOrder(order) < 0) {
                break;
            }
            carried++;
        }
        pad = "";
        return carried;
    }

    private int doOrder(String order) {
        if (order.charAt(0) == '+') {
            int legal = order.endsWith("L") ? 1 : 0;
            String[] parts = order.substring(1).replace("L", "").split("[:!]");
            return doPiece(Integer.parseInt(parts[0]), Integer.parseInt(parts[1]), Integer.parseInt(parts[2]), legal);
        }
        int number = Integer.parseInt(order.substring(1));
        switch (order.charAt(0)) {
            case 'p':
                return doPlate(number);
            case 'h':
                return doHold(number);
            case 'k':
                return doKill(number);
            default:
                return doPass(number);
        }
    }

    int undo() {
        if (history.isEmpty()) {
            return -5;
        }
        s = history.remove(history.size() - 1);
        return history.size();
    }

    int save(int slot) {
        if (slot != 0 && slot != 1) {
            return -2;
        }
        slots[slot] = s.twin();
        return s.copies.size();
    }

    int restore(int slot) {
        if (slot != 0 && slot != 1) {
            return -2;
        }
        if (slots[slot] == null) {
            return -5;
        }
        record(s);
        s = slots[slot].twin();
        return s.copies.size();
    }
}
