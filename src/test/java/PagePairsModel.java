import java.util.ArrayDeque;
import java.util.ArrayList;
import java.util.Deque;
import java.util.List;
import java.util.Random;
import java.util.regex.Matcher;
import java.util.regex.Pattern;

/** Compares the program with a second one, written tick by tick from the document, in many runs of calls. */
public final class PagePairsModel {
    private static final int RUNS = 1500;
    private static final int CALLS = 150;
    /** Of so many runs one goes on as long as an object may be used, and with many ticks, beyond the last time. */
    private static final int LONG_EACH = 25;
    private static final int LONG_CALLS = 512;

    private static final class Page {
        char state = 'b';
        int key;
        int value;
        int stamp;
        boolean late;
        int wordline;

        Page copy() {
            Page p = new Page();
            p.state = state;
            p.key = key;
            p.value = value;
            p.stamp = stamp;
            p.late = late;
            p.wordline = wordline;
            return p;
        }
    }

    private static final class Backup {
        int key;
        int value;
        int stamp;
        int ticks;

        boolean complete() {
            return ticks == 2;
        }

        Backup copy() {
            Backup b = new Backup();
            b.key = key;
            b.value = value;
            b.stamp = stamp;
            b.ticks = ticks;
            return b;
        }
    }

    private record Request(int key, int value, int urgency, int stamp) { }

    private record Place(int block, int where, int stamp, int value) { }

    private static final class Model {
        Page[][] pages = new Page[2][16];
        Backup[][] backups = new Backup[2][8];
        List<Request> waiting = new ArrayList<>();
        int[] settings = {2, 5, 1, 3};
        int[] slowness = new int[8];
        int[] erased = new int[2];
        int time;
        boolean power = true;
        int active;
        int stamps;
        int acknowledged;
        int gone;
        int lost;
        int cuts;
        int made;
        Request current;
        int at;
        int backupTicks;
        int ownTicks;
        int elapsed;

        Model() {
            for (int b = 0; b < 2; b++) {
                for (int w = 0; w < 8; w++) {
                    blank(b, 2 * w - (w == 0 ? 0 : 1), w, false);
                    blank(b, w == 7 ? 15 : 2 * w + 2, w, true);
                }
            }
        }

        void blank(int block, int position, int wordline, boolean late) {
            Page p = new Page();
            p.wordline = wordline;
            p.late = late;
            pages[block][position] = p;
        }

        Model copy() {
            Model m = new Model();
            for (int b = 0; b < 2; b++) {
                for (int p = 0; p < 16; p++) {
                    m.pages[b][p] = pages[b][p].copy();
                }
                for (int w = 0; w < 8; w++) {
                    m.backups[b][w] = backups[b][w] == null ? null : backups[b][w].copy();
                }
            }
            m.waiting = new ArrayList<>(waiting);
            m.settings = settings.clone();
            m.slowness = slowness.clone();
            m.erased = erased.clone();
            m.time = time;
            m.power = power;
            m.active = active;
            m.stamps = stamps;
            m.acknowledged = acknowledged;
            m.gone = gone;
            m.lost = lost;
            m.cuts = cuts;
            m.made = made;
            m.current = current;
            m.at = at;
            m.backupTicks = backupTicks;
            m.ownTicks = ownTicks;
            m.elapsed = elapsed;
            return m;
        }

        Page early(int block, int wordline) {
            for (Page p : pages[block]) {
                if (p.wordline == wordline && !p.late) {
                    return p;
                }
            }
            throw new IllegalStateException();
        }

        Place place(int key) {
            Place best = null;
            for (int b = 0; b < 2; b++) {
                for (int w = 0; w < 8; w++) {
                    Backup c = backups[b][w];
                    if (c != null && c.complete() && c.key == key && (best == null || c.stamp > best.stamp)) {
                        best = new Place(b, 16 + w, c.stamp, c.value);
                    }
                }
            }
            for (int b = 0; b < 2; b++) {
                for (int i = 0; i < 16; i++) {
                    Page p = pages[b][i];
                    if (p.state == 'w' && p.key == key && (best == null || p.stamp >= best.stamp)) {
                        best = new Place(b, i, p.stamp, p.value);
                    }
                }
            }
            return best;
        }

        int firstBlank() {
            int i = 0;
            while (i < 16 && pages[active][i].state != 'b') {
                i++;
            }
            return i;
        }

        int next() {
            int least = 0;
            for (int i = 1; i < waiting.size(); i++) {
                if (waiting.get(i).urgency < waiting.get(least).urgency) {
                    least = i;
                }
            }
            return least;
        }

        boolean stays(Request r) {
            if (r.urgency == 1 || r.urgency == 2) {
                return true;
            }
            Place p = place(r.key);
            return p != null && p.stamp == r.stamp;
        }

        void oneTick() {
            time++;
            while (current == null && firstBlank() < 16 && !waiting.isEmpty()) {
                Request r = waiting.remove(next());
                if (stays(r)) {
                    begin(r);
                }
            }
            if (current == null) {
                return;
            }
            elapsed++;
            Page p = pages[active][at];
            Backup b = backups[active][p.wordline];
            if (backupTicks > 0 && elapsed <= 2) {
                b.ticks = elapsed;
                if (b.complete()) {
                    made++;
                }
            }
            if (elapsed == backupTicks + ownTicks) {
                p.state = 'w';
                if (p.late) {
                    backups[active][p.wordline] = null;
                }
                if (current.urgency == 1 || current.urgency == 2) {
                    acknowledged++;
                }
                current = null;
            }
        }

        void begin(Request r) {
            at = firstBlank();
            current = r;
            elapsed = 0;
            Page p = pages[active][at];
            p.state = 'i';
            p.key = r.key;
            p.value = r.value;
            p.stamp = ++stamps;
            Page e = early(active, p.wordline);
            backupTicks = 0;
            if (p.late && settings[2] == 1 && e.state == 'w') {
                backupTicks = 2;
                Backup b = new Backup();
                b.key = e.key;
                b.value = e.value;
                b.stamp = e.stamp;
                backups[active][p.wordline] = b;
            }
            ownTicks = settings[p.late ? 1 : 0] + slowness[p.wordline] + erased[active] / settings[3];
        }

        int write(int key, int value, int urgent) {
            if (key < 0 || key > 11 || value < 0 || value > 999 || urgent < 0 || urgent > 1) {
                return -1;
            }
            if (!power) {
                return -2;
            }
            if (waiting.size() == 8) {
                return -3;
            }
            waiting.add(new Request(key, value, 2 - urgent, 0));
            return waiting.size();
        }

        int tick(int many) {
            if (many < 1 || many > 200) {
                return -1;
            }
            if (!power) {
                return -2;
            }
            if (time + many > 9000) {
                return -3;
            }
            int before = acknowledged;
            for (int i = 0; i < many; i++) {
                oneTick();
            }
            return acknowledged - before;
        }

        int losses() {
            Place[] before = new Place[12];
            for (int k = 0; k < 12; k++) {
                before[k] = place(k);
            }
            power = false;
            cuts++;
            gone += waiting.size();
            waiting.clear();
            if (current != null) {
                gone++;
                current = null;
                Page p = pages[active][at];
                p.state = 't';
                if (p.late && elapsed > backupTicks) {
                    early(active, p.wordline).state = 't';
                }
                Backup b = backups[active][p.wordline];
                if (b != null && !b.complete()) {
                    backups[active][p.wordline] = null;
                }
            }
            int set = 0;
            for (int k = 0; k < 12; k++) {
                Place after = place(k);
                if (before[k] != null && (after == null || after.stamp != before[k].stamp)) {
                    set += 1 << k;
                    lost++;
                }
            }
            return set;
        }

        int cut() {
            return power ? Integer.bitCount(losses()) : -2;
        }

        int on() {
            if (power) {
                return -2;
            }
            power = true;
            for (int b = 0; b < 2; b++) {
                for (int w = 0; w < 8; w++) {
                    cleanOne(b, 16 + w, 0);
                }
            }
            return waiting.size();
        }

        int cleanOne(int block, int where, int urgency) {
            for (int k = 0; k < 12; k++) {
                Place p = place(k);
                if (p != null && p.block == block && p.where == where && waiting.size() < 8) {
                    waiting.add(new Request(k, p.value, urgency, p.stamp));
                }
            }
            return waiting.size();
        }

        int turn() {
            if (!power || current != null) {
                return -2;
            }
            for (Page p : pages[1 - active]) {
                if (p.state != 'b') {
                    return -2;
                }
            }
            active = 1 - active;
            return active;
        }

        int keysIn(int block) {
            int many = 0;
            for (int k = 0; k < 12; k++) {
                Place p = place(k);
                many += p != null && (block < 0 || p.block == block) ? 1 : 0;
            }
            return many;
        }

        int clean(int block) {
            if (block < 0 || block > 1) {
                return -1;
            }
            if (!power || block == active) {
                return -2;
            }
            int many = keysIn(block);
            if (waiting.size() + many > 8) {
                return -3;
            }
            for (int where = 0; where < 24; where++) {
                cleanOne(block, where, 3);
            }
            return many;
        }

        int erase(int block) {
            if (block < 0 || block > 1) {
                return -1;
            }
            if (!power || block == active || keysIn(block) > 0) {
                return -2;
            }
            for (Page p : pages[block]) {
                p.state = 'b';
            }
            backups[block] = new Backup[8];
            return ++erased[block];
        }

        int slow(int wordline, int ticks) {
            if (wordline < 0 || wordline > 7 || ticks < 0 || ticks > 5) {
                return -1;
            }
            int before = slowness[wordline];
            slowness[wordline] = ticks;
            return before;
        }

        int set(int what, int value) {
            int[][] ranges = {{1, 9}, {1, 20}, {0, 1}, {1, 99}};
            if (what < 0 || what > 3 || value < ranges[what][0] || value > ranges[what][1]) {
                return -1;
            }
            int before = settings[what];
            settings[what] = value;
            return before;
        }

        int wouldLose(int ticks) {
            if (ticks < 0 || ticks > 200) {
                return -1;
            }
            if (!power) {
                return -2;
            }
            Model m = copy();
            for (int i = 0; i < ticks; i++) {
                m.oneTick();
            }
            return m.losses();
        }

        int doneIn() {
            if (!power) {
                return -2;
            }
            Model m = copy();
            while (m.current != null || !m.waiting.isEmpty()) {
                if (m.current == null && m.firstBlank() == 16) {
                    return -4;
                }
                m.oneTick();
            }
            return m.time - time;
        }

        int command(String command) {
            String[] numbers = command.substring(1).split(",");
            int first = numbers[0].isEmpty() ? 0 : Integer.parseInt(numbers[0]);
            switch (command.charAt(0)) {
                case 'w': return write(first, Integer.parseInt(numbers[1]), 0);
                case 'u': return write(first, Integer.parseInt(numbers[1]), 1);
                case 't': return tick(first);
                case 'x': return cut();
                case 'o': return on();
                case 's': return turn();
                case 'c': return clean(first);
                default: return erase(first);
            }
        }

        int count(int what) {
            int torn = 0;
            for (int i = 0; i < 32; i++) {
                torn += pages[i / 16][i % 16].state == 't' ? 1 : 0;
            }
            int left = current == null ? -4 : backupTicks + ownTicks - elapsed;
            int[] counts = {time, power ? 1 : 0, active, firstBlank(), waiting.size(), current == null ? 0 : 1, left,
                acknowledged, gone, lost, torn, keysIn(-1), erased[0], erased[1], cuts, made};
            if (what >= 30 && what < 38) {
                return slowness[what - 30];
            }
            if (what >= 20 && what < 24) {
                return settings[what - 20];
            }
            return what >= 0 && what < 16 ? counts[what] : -1;
        }

        int waits(int index, int what) {
            List<Request> sorted = new ArrayList<>();
            Model m = copy();
            while (!m.waiting.isEmpty()) {
                sorted.add(m.waiting.remove(m.next()));
            }
            if (index >= sorted.size()) {
                return -4;
            }
            Request r = sorted.get(index);
            return what == 0 ? r.key : what == 1 ? r.value : r.urgency;
        }
    }

    private static final Pattern COMMAND =
            Pattern.compile("(?:[wu][0-9]{1,3},[0-9]{1,3}|[tce][0-9]{1,3}|[xos]);");

    private final Random random;
    private final boolean isLong;
    private final PagePairs real = new PagePairs();
    private final Deque<Model> history = new ArrayDeque<>();
    private final StringBuilder text = new StringBuilder();
    private final List<String> log = new ArrayList<>();
    private Model model = new Model();
    private int wrong = 0;

    private PagePairsModel(long seed) {
        random = new Random(seed);
        isLong = seed % LONG_EACH == 0;
    }

    public static void main(String[] args) {
        int wrong = 0;
        for (int run = 0; run < RUNS && wrong == 0; run++) {
            wrong += new PagePairsModel(run).run();
        }
        System.out.println(wrong == 0 ? RUNS + " runs answer alike" : "the programs answer differently");
        if (wrong != 0) {
            System.exit(1);
        }
    }

    private int run() {
        int calls = isLong ? LONG_CALLS : CALLS;
        for (int call = 0; call < calls && wrong == 0; call++) {
            change();
            if (call % 3 == 0) {
                compareAll();
            }
        }
        if (wrong > 0) {
            log.forEach(System.out::println);
        }
        return wrong;
    }

    private void due(String call, int got, int want) {
        log.add(call + " answered " + got + (got == want ? "" : ", due is " + want));
        wrong += got == want ? 0 : 1;
    }

    private void changed(String call, int got, Model before, int want) {
        due(call, got, want);
        if (want >= 0) {
            history.addLast(before);
            if (history.size() > 4) {
                history.removeFirst();
            }
        }
    }

    private int upTo(int most) {
        return random.nextInt(most + 1);
    }

    private void change() {
        Model before = model.copy();
        int a = upTo(12) - (random.nextInt(40) == 0 ? 1 : 0);
        int b = upTo(random.nextInt(30) == 0 ? 1001 : 999);
        int c = random.nextInt(2);
        int kind = upTo(99);
        if (kind < 34) {
            a = kind < 15 ? a % 4 : a;
            changed("write(" + a + ", " + b + ", " + c + ")", real.write(a, b, c), before, model.write(a, b, c));
        } else if (kind < 62) {
            int many = kind < 57 && !isLong ? 1 + upTo(9) : upTo(202);
            changed("tick(" + many + ")", real.tick(many), before, model.tick(many));
        } else if (kind < 66) {
            changed("cut()", real.cut(), before, model.cut());
        } else if (kind < 73) {
            changed("on()", real.on(), before, model.on());
        } else if (kind < 76) {
            changed("turn()", real.turn(), before, model.turn());
        } else if (kind < 80) {
            a = upTo(3) - 1;
            changed("clean(" + a + ")", real.clean(a), before, model.clean(a));
        } else if (kind < 84) {
            a = upTo(3) - 1;
            changed("erase(" + a + ")", real.erase(a), before, model.erase(a));
        } else if (kind < 87) {
            a = upTo(9) - 1;
            b = upTo(7) - 1;
            changed("slow(" + a + ", " + b + ")", real.slow(a, b), before, model.slow(a, b));
        } else if (kind < 90) {
            a = upTo(5) - 1;
            b = upTo(4);
            changed("set(" + a + ", " + b + ")", real.set(a, b), before, model.set(a, b));
        } else if (kind < 94) {
            undo();
        } else if (kind < 97) {
            typeCommands();
        } else {
            play(before);
        }
    }

    private void undo() {
        due("undo()", real.undo(), history.isEmpty() ? -2 : history.size() - 1);
        if (!history.isEmpty()) {
            model = history.removeLast();
        }
    }

    private void typeCommands() {
        due("clearText()", real.clearText(), text.length());
        text.setLength(0);
        StringBuilder typed = new StringBuilder();
        int many = upTo(6);
        for (int i = 0; i < many; i++) {
            switch (upTo(9)) {
                case 0: case 1: case 2: typed.append(random.nextBoolean() ? 'w' : 'u').append(upTo(12)).append(',')
                        .append(upTo(1000)).append(';'); break;
                case 3: case 4: typed.append('t').append(upTo(20)).append(';'); break;
                case 5: typed.append("x;o;"); break;
                case 6: typed.append("s;"); break;
                case 7: typed.append('c').append(upTo(1)).append(';'); break;
                case 8: typed.append('e').append(upTo(1)).append(';'); break;
                default: typed.append((char) (32 + upTo(94))); break;
            }
        }
        for (int i = 0; i < typed.length(); i++) {
            int length = text.length() == 60 ? -3 : text.length() + 1;
            due("type('" + typed.charAt(i) + "')", real.type(typed.charAt(i)), length);
            if (length > 0) {
                text.append(typed.charAt(i));
            }
        }
    }

    /** Answers the fault's position, reason and cause, and behind them how many commands were done. */
    private int[] script(Model on) {
        Matcher matcher = COMMAND.matcher(text);
        int done = 0;
        for (int at = 0; at < text.length(); at = matcher.end()) {
            matcher.region(at, text.length());
            if (!matcher.lookingAt()) {
                return new int[] {at, 1, -4, done};
            }
            int answer = on.command(text.substring(at, matcher.end() - 1));
            if (answer < 0) {
                return new int[] {at, 2, answer, done};
            }
            done++;
        }
        return new int[] {-4, -4, -4, done};
    }

    private void play(Model before) {
        Model after = model.copy();
        int[] due = script(after);
        if (due[0] == -4) {
            model = after;
        }
        changed("play()", real.play(), before, due[0] == -4 ? due[3] : -2);
    }

    private void compareAll() {
        for (int what = -1; what < 40; what++) {
            int want = what == 16 ? history.size() : what == 17 ? text.length() : model.count(what);
            due("count(" + what + ")", real.count(what), want);
        }
        for (int key = 0; key < 12; key++) {
            Place p = model.place(key);
            due("read(" + key + ")", real.read(key), p == null ? -4 : p.value);
            due("placeOf(" + key + ", 0)", real.placeOf(key, 0), p == null ? -4 : p.block);
            due("placeOf(" + key + ", 1)", real.placeOf(key, 1), p == null ? -4 : p.where);
            due("placeOf(" + key + ", 2)", real.placeOf(key, 2), p == null ? -4 : p.stamp);
        }
        for (int i = 0; i < 8; i++) {
            for (int what = 0; what < 3; what++) {
                due("waits(" + i + ", " + what + ")", real.waits(i, what), model.waits(i, what));
            }
        }
        for (int block = 0; block < 2; block++) {
            comparePages(block);
            compareBackups(block);
        }
        int ticks = random.nextBoolean() ? upTo(12) : upTo(201);
        due("wouldLose(" + ticks + ")", real.wouldLose(ticks), model.wouldLose(ticks));
        due("doneIn()", real.doneIn(), model.doneIn());
        int[] fault = script(model.copy());
        for (int what = 0; what < 3; what++) {
            due("fault(" + what + ")", real.fault(what), fault[what]);
        }
    }

    private void comparePages(int block) {
        for (int i = 0; i < 16; i++) {
            Page p = model.pages[block][i];
            boolean is = p.state == 'w';
            int[] want = {"biwt".indexOf(p.state), is ? p.key : -4, is ? p.value : -4, is ? p.stamp : -4, p.wordline,
                p.late ? 1 : 0};
            for (int what = 0; what < 6; what++) {
                due("pageOf(" + block + ", " + i + ", " + what + ")", real.pageOf(block, i, what), want[what]);
            }
        }
    }

    private void compareBackups(int block) {
        for (int i = 0; i < 8; i++) {
            Backup b = model.backups[block][i];
            int[] want = b == null ? new int[] {-4, -4, -4, -4}
                    : new int[] {b.complete() ? 1 : 0, b.key, b.value, b.stamp};
            for (int what = 0; what < 4; what++) {
                due("backupOf(" + block + ", " + i + ", " + what + ")", real.backupOf(block, i, what), want[what]);
            }
        }
    }
}
