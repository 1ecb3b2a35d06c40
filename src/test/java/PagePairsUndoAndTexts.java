import java.util.List;
import java.util.function.Supplier;
import java.util.function.ToIntFunction;

/**
 * The edges of the promises 19 to 23: undo, and the text of commands. What is empty and what is full, the least and
 * the greatest argument and the one beyond each, each error, which of several it is, and that it changes nothing.
 */
public final class PagePairsUndoAndTexts {
    private static final List<Supplier<PagePairs>> STATES = Checks.states();

    public static void main(String[] args) {
        undoOfNothing();
        undoAnswers();
        undoOfRequests();
        undoOfPower();
        undoOfBlocks();
        undoOfSettings();
        undoOfTallies();
        undoOfRefused();
        type();
        clearText();
        fault();
        faultOfThePresentState();
        play();
        playOfFault();
        playIsOneChange();
        playInsideHistory();
        playLikeCalls();
        Checks.end();
    }

    private static void sentence(String words) {
        Checks.sentence(words);
    }

    private static void due(String call, int got, int want) {
        Checks.due(call, got, want);
    }

    // ---- promise 19

    private static PagePairs allUndone() {
        PagePairs x = Checks.busy();
        for (int times = 0; times < 4; times++) {
            x.undo();
        }
        return x;
    }

    private static void undoOfNothing() {
        sentence("Promise 19: NOT_POSSIBLE if it is empty");
        Checks.leavesAll("undo()", PagePairs::new, PagePairs::undo, Checks.IMPOSSIBLE);
        Checks.leavesAll("undo()", () -> Checks.typed("t1;x;"), PagePairs::undo, Checks.IMPOSSIBLE);
        Checks.leavesAll("undo()", PagePairsUndoAndTexts::allUndone, PagePairs::undo, Checks.IMPOSSIBLE);
    }

    private static void undoAnswers() {
        sentence("Promise 19: Returns the number of states that are left in the history");
        for (int many = 1; many <= 6; many++) {
            PagePairs x = new PagePairs();
            for (int i = 0; i < many; i++) {
                x.tick(1);
            }
            int kept = Math.min(4, many);
            for (int left = kept - 1; left >= 0; left--) {
                due("undo()", x.undo(), left);
                due("count(16)", x.count(16), left);
                due("the time", x.count(0), many - kept + left);
            }
            due("undo()", x.undo(), Checks.IMPOSSIBLE);
        }
        sentence("Promise 19: Restores the latest state, which is removed from it");
        PagePairs x = new PagePairs();
        x.tick(1);
        x.tick(2);
        x.undo();
        x.tick(4);
        due("1 and 4", x.count(0), 5);
        due("undo()", x.undo(), 1);
        due("1", x.count(0), 1);
        due("undo()", x.undo(), 0);
        due("0", x.count(0), 0);
    }

    /**
     * Makes room in the history, so that a change and its undo leave it as it was. The state that would be
     * restored if the change recorded nothing is another one: it has another slowness of the wordline 7.
     */
    private static PagePairs withRoom(PagePairs x) {
        x.slow(7, 2);
        x.slow(7, 1);
        x.undo();
        x.undo();
        x.slow(7, 3);
        return x;
    }

    /** Seven wait, and one is being written. */
    private static PagePairs sevenWait() {
        PagePairs x = Checks.busy();
        x.undo();
        return x;
    }

    private static PagePairs cleanedOut() {
        PagePairs x = Checks.inBackups();
        x.on();
        x.turn();
        x.clean(0);
        x.tick(4);
        x.tick(1);
        return x;
    }

    private static void undone(String name, Supplier<PagePairs> made, ToIntFunction<PagePairs> change) {
        due(name + " is refused", change.applyAsInt(withRoom(made.get())) < 0 ? 1 : 0, 0);
        Checks.leavesAll(name + " and undo()", () -> withRoom(made.get()), x -> {
            change.applyAsInt(x);
            return x.undo();
        }, withRoom(made.get()).count(16));
    }

    private static void undoOfRequests() {
        sentence("each change records everything before it but the text: write, tick");
        undone("write", PagePairs::new, x -> x.write(3, 30, 1));
        undone("write", PagePairsUndoAndTexts::sevenWait, x -> x.write(0, 999, 1));
        undone("write", PagePairsUndoAndTexts::sevenWait, x -> x.write(0, 999, 0));
        for (int ticks : new int[] {1, 3, 4, 5, 50, 200}) {
            undone("tick(" + ticks + ")", PagePairsUndoAndTexts::sevenWait, x -> x.tick(ticks));
            undone("tick(" + ticks + ")", PagePairsUndoAndTexts::beginning, x -> x.tick(ticks));
        }
    }

    /** A late page is being written; of its backup one tick has gone by. */
    private static PagePairs beginning() {
        PagePairs x = Checks.written(2);
        x.write(2, 2, 0);
        x.tick(1);
        return x;
    }

    private static void undoOfPower() {
        sentence("each change records everything before it but the text: cut, on");
        undone("cut", PagePairs::new, PagePairs::cut);
        undone("cut", PagePairsUndoAndTexts::sevenWait, PagePairs::cut);
        undone("cut", PagePairsUndoAndTexts::beginning, PagePairs::cut);
        undone("cut", PagePairsUndoAndTexts::losing, PagePairs::cut);
        undone("on", Checks::off, PagePairs::on);
        undone("cut", PagePairsUndoAndTexts::cleaned, PagePairs::cut);
    }

    private static PagePairs cleaned() {
        PagePairs x = Checks.written(3);
        x.turn();
        x.clean(0);
        return x;
    }

    private static PagePairs losing() {
        PagePairs x = new PagePairs();
        x.set(2, 0);
        Checks.fill(x, 2);
        x.write(2, 2, 0);
        x.tick(1);
        return x;
    }

    private static void undoOfBlocks() {
        sentence("each change records everything before it but the text: turn, clean, erase");
        undone("turn", PagePairs::new, PagePairs::turn);
        undone("turn", Checks::crowded, PagePairs::turn);
        undone("clean", PagePairs::new, x -> x.clean(1));
        undone("clean", PagePairsUndoAndTexts::threeInOther, x -> x.clean(0));
        undone("erase", PagePairs::new, x -> x.erase(1));
        undone("erase", PagePairsUndoAndTexts::cleanedOut, x -> x.erase(0));
    }

    private static PagePairs threeInOther() {
        PagePairs x = Checks.written(3);
        x.turn();
        return x;
    }

    private static void undoOfSettings() {
        sentence("each change records everything before it but the text: slow, set, play");
        for (Supplier<PagePairs> made : List.<Supplier<PagePairs>>of(PagePairs::new,
                PagePairsUndoAndTexts::sevenWait, Checks::off)) {
            undone("slow", made, x -> x.slow(0, 5));
            undone("slow", made, x -> x.slow(7, 5));
            undone("slow, as it was", made, x -> x.slow(7, 3));
            undone("set 0", made, x -> x.set(0, 9));
            undone("set 1", made, x -> x.set(1, 20));
            undone("set 2", made, x -> x.set(2, 0));
            undone("set 3", made, x -> x.set(3, 99));
        }
        undone("play", Checks::off, PagePairs::play);
        undone("play of nothing", PagePairs::new, PagePairs::play);
        undone("play", () -> Checks.typed("w1,1;t1;x;o;e1;s;w1,1;t2;"), PagePairs::play);
    }

    private static void undoOfTallies() {
        sentence("Promise 19: Restores the latest state: what was counted, too");
        PagePairs x = Checks.written(2);
        x.write(2, 2, 0);
        x.tick(7);
        due("acknowledged", x.count(7), 3);
        due("made", x.count(15), 1);
        x.undo();
        due("acknowledged", x.count(7), 2);
        due("made", x.count(15), 0);
        PagePairs lost = losing();
        lost.write(5, 5, 0);
        lost.cut();
        due("gone", lost.count(8), 2);
        due("lost", lost.count(9), 1);
        due("torn", lost.count(10), 2);
        due("cuts", lost.count(14), 1);
        lost.undo();
        due("gone", lost.count(8), 0);
        due("lost", lost.count(9), 0);
        due("torn", lost.count(10), 0);
        due("cuts", lost.count(14), 0);
        due("the value of what waits", lost.waits(0, 1), 5);
        due("its key", lost.waits(0, 0), 5);
        PagePairs erased = new PagePairs();
        erased.erase(1);
        erased.undo();
        due("erased", erased.count(13), 0);
        due("erased again", erased.erase(1), 1);
    }

    private static void undoOfRefused() {
        sentence("The changes are the calls that return no error");
        PagePairs x = new PagePairs();
        x.tick(7);
        x.tick(0);
        x.write(12, 0, 0);
        x.on();
        x.clean(0);
        x.erase(0);
        x.slow(8, 0);
        x.set(4, 0);
        Checks.typeAll(x, "o;");
        x.play();
        x.undo();
        due("the time", x.count(0), 0);
        due("it is empty", x.undo(), Checks.IMPOSSIBLE);
        PagePairs full = Checks.crowded();
        full.write(0, 0, 0);
        full.tick(201);
        due("undo()", full.undo(), 3);
        due("the eighth one is gone", full.count(4), 7);
        PagePairs off = new PagePairs();
        off.cut();
        off.cut();
        off.tick(1);
        off.turn();
        off.write(0, 0, 0);
        due("undo()", off.undo(), 0);
        due("the power", off.count(1), 1);
    }

    // ---- promises 20 and 21

    private static void type() {
        sentence("Promise 20: INVALID_ARGUMENT if character is out of range");
        Checks.range("type", STATES, PagePairs::type, 32, 126);
        sentence("Promise 20: LIMIT_REACHED if it has 60 characters");
        for (int character : new int[] {32, ';', 's', 126}) {
            Checks.leavesAll("type", Checks::crowded, x -> x.type(character), Checks.LIMIT);
        }
        Checks.leavesAll("type, wrong", Checks::crowded, x -> x.type(31), Checks.INVALID);
        Checks.leavesAll("type, wrong", Checks::crowded, x -> x.type(127), Checks.INVALID);
        sentence("Promise 20: Returns the length of the text");
        PagePairs x = new PagePairs();
        for (int length = 1; length <= 60; length++) {
            due("type", x.type(31 + length), length);
        }
        due("one more", x.type(32), Checks.LIMIT);
        x.clearText();
        due("the first one again", x.type(126), 1);
        PagePairs off = new PagePairs();
        off.cut();
        due("with the power off", off.type('o'), 1);
        sentence("Promise 20: Appends a character to the text");
        PagePairs order = Checks.typed("t12;");
        order.play();
        due("the time", order.count(0), 12);
    }

    private static void clearText() {
        sentence("Promise 21: Returns the length it had");
        for (int length = 0; length <= 60; length++) {
            PagePairs x = new PagePairs();
            for (int i = 0; i < length; i++) {
                x.type('q');
            }
            due("clearText()", x.clearText(), length);
            due("count(17)", x.count(17), 0);
            due("again", x.clearText(), 0);
        }
        PagePairs full = Checks.crowded();
        full.type('s');
        due("60 at most", full.clearText(), 60);
        sentence("Promise 21: Empties the text");
        PagePairs x = Checks.typed("o;");
        due("a fault", x.fault(0), 0);
        x.clearText();
        due("no fault", x.fault(0), Checks.NONE);
        due("play()", x.play(), 0);
        x.undo();
        due("undo does not bring it back", x.count(17), 0);
        PagePairs shorter = Checks.typed("t12;x;");
        Checks.typeAll(shorter, "t1");
        due("nothing of it is left", shorter.fault(1), 1);
        Checks.typeAll(shorter, "t12");
        due("nothing of it is left", shorter.fault(1), 1);
        Checks.typeAll(shorter, "t1;");
        due("nothing of it is left", shorter.play(), 1);
        due("the time", shorter.count(0), 1);
        PagePairs nothing = new PagePairs();
        nothing.clearText();
        due("it is no change", nothing.undo(), Checks.IMPOSSIBLE);
    }

    // ---- promise 22

    private static void fault() {
        sentence("Promise 22: INVALID_ARGUMENT if what is out of range");
        Checks.range("fault", STATES, PagePairs::fault, 0, 2);
        sentence("Promise 22: NOT_FOUND if the text has no fault (also if it is empty)");
        PagePairs empty = new PagePairs();
        PagePairs none = Checks.typed("t1;x;o;");
        PagePairs full = Checks.crowded();
        for (int what = 0; what < 3; what++) {
            due("empty", empty.fault(what), Checks.NONE);
            due("possible", none.fault(what), Checks.NONE);
        }
        sentence("Promise 22: 0: its position; 1: its reason; 2: its cause");
        due("the second s", full.fault(0), 2);
        full.turn();
        due("the first s", full.fault(0), 0);
        due("its reason", full.fault(1), 2);
        due("its cause", full.fault(2), Checks.IMPOSSIBLE);
        sentence("Promise 22: NOT_FOUND for 2 if its reason is 1");
        PagePairs form = Checks.typed("t1;t2");
        due("its position", form.fault(0), 3);
        due("its reason", form.fault(1), 1);
        due("its cause", form.fault(2), Checks.NONE);
        sentence("Promise 22: Tells about the fault: nothing is done");
        Checks.leavesAll("fault(0)", () -> Checks.typed("w1,1;t2;s;c0;e0;"), x -> x.fault(0), 13);
        Checks.leavesAll("fault(2)", () -> Checks.typed("w1,1;t1;x;x;"), x -> x.fault(2), Checks.IMPOSSIBLE);
        Checks.leavesAll("fault(0)", Checks::off, x -> x.fault(0), Checks.NONE);
    }

    private static void faultOfThePresentState() {
        sentence("Promise 22: the first command that is not possible, when those ahead of it are done");
        PagePairs x = Checks.typed("o;t1;");
        due("on already", x.fault(0), 0);
        x.cut();
        due("off", x.fault(0), Checks.NONE);
        x.on();
        due("on again", x.fault(0), 0);
        PagePairs waiting = Checks.typed("w0,0;w0,0;");
        for (int many = 0; many <= 8; many++) {
            due(many + " wait", waiting.fault(0), many <= 6 ? Checks.NONE : many == 7 ? 5 : 0);
            due(many + " wait", waiting.fault(2), many <= 6 ? Checks.NONE : Checks.LIMIT);
            waiting.write(0, 0, 0);
        }
        PagePairs full = Checks.typed("e0;");
        due("active", full.fault(2), Checks.IMPOSSIBLE);
        full.turn();
        due("not active", full.fault(2), Checks.NONE);
        PagePairs ticks = Checks.typed("t200;t200;");
        due("no fault", ticks.fault(0), Checks.NONE);
        PagePairs old = Checks.old(0);
        Checks.typeAll(old, "t200;t200;");
        due("9000, then 9200", old.fault(0), 5);
        due("LIMIT_REACHED", old.fault(2), Checks.LIMIT);
        old.tick(1);
        due("9001", old.fault(0), 0);
    }

    // ---- promise 23

    private static void play() {
        sentence("Promise 23: They are one change, also if there are none");
        PagePairs empty = new PagePairs();
        due("play()", empty.play(), 0);
        due("states", empty.count(16), 1);
        due("undo()", empty.undo(), 0);
        sentence("Promise 23: Returns how many there are in it");
        for (int many = 0; many <= 30; many++) {
            PagePairs x = Checks.typed("s;".repeat(many));
            due("play()", x.play(), many);
            due("the active block", x.count(2), many % 2);
            due("states", x.count(16), 1);
        }
        due("of 60 characters", Checks.typed("t1;".repeat(20)).play(), 20);
        due("of 60 characters", Checks.typed("w11,999;t200;".repeat(4) + "t20;s;x;").play(), 11);
        sentence("Promise 23: the text stays");
        PagePairs stays = Checks.typed("t1;");
        due("play()", stays.play(), 1);
        due("its length", stays.count(17), 3);
        due("play()", stays.play(), 1);
        due("the time", stays.count(0), 2);
        due("more of it", stays.type('x'), 4);
        due("play()", stays.play(), Checks.IMPOSSIBLE);
        stays.type(';');
        due("play()", stays.play(), 2);
        due("the time", stays.count(0), 3);
    }

    private static void playOfFault() {
        sentence("Promise 23: NOT_POSSIBLE if it has a fault");
        String[] faults = {"o;", "q", ";", "t0;", "t201;", "w12,0;", "c2;", "c0;", "e0;", "t1;o;", "t1;x;x;",
            "w1,1;t2;x;o;s;e0;", "w1,1;".repeat(9), "s;".repeat(29) + "s", "t1; ", " t1;", "t1;t"};
        for (String text : faults) {
            Checks.leavesAll("play of " + text, () -> Checks.typed(text), PagePairs::play, Checks.IMPOSSIBLE);
        }
        Checks.leavesAll("play", Checks::busy, PagePairs::play, Checks.IMPOSSIBLE);
        Checks.leavesAll("play", () -> late("t1;t1;"), PagePairs::play, Checks.IMPOSSIBLE);
        due("up to 9000", late("t1;").play(), 1);
    }

    /** The time is 8999. */
    private static PagePairs late(String text) {
        PagePairs x = Checks.old(199);
        Checks.typeAll(x, text);
        return x;
    }

    private static void playIsOneChange() {
        sentence("Promise 23: Does all commands of the text. They are one change");
        PagePairs x = Checks.typed("w1,10;u2,20;t4;x;o;s;c0;t4;e0;");
        due("play()", x.play(), 9);
        due("states", x.count(16), 1);
        due("the time", x.count(0), 8);
        due("key 2", x.placeOf(2, 1), 0);
        due("key 1", x.placeOf(1, 1), 1);
        due("in block 1", x.placeOf(1, 0), 1);
        due("cuts", x.count(14), 1);
        due("erased", x.count(12), 1);
        due("acknowledged", x.count(7), 2);
        due("undo()", x.undo(), 0);
        due("the time", x.count(0), 0);
        due("cuts", x.count(14), 0);
        due("the text stays", x.count(17), 30);
        due("play()", x.play(), 9);
    }

    private static void playInsideHistory() {
        sentence("if there are 5 states then, the oldest one is dropped");
        PagePairs full = Checks.typed("t1;t2;");
        for (int i = 0; i < 4; i++) {
            full.tick(10);
        }
        due("play()", full.play(), 2);
        due("states", full.count(16), 4);
        int[] times = {40, 30, 20, 10};
        for (int i = 0; i < 4; i++) {
            due("undo()", full.undo(), 3 - i);
            due("the time", full.count(0), times[i]);
        }
        due("the oldest one was dropped", full.undo(), Checks.IMPOSSIBLE);
        sentence("NOT_POSSIBLE if it has a fault: the history stays");
        PagePairs faulty = Checks.typed("t1;o;");
        for (int i = 0; i < 4; i++) {
            faulty.tick(10);
        }
        due("play()", faulty.play(), Checks.IMPOSSIBLE);
        due("the time", faulty.count(0), 40);
        for (int i = 0; i < 4; i++) {
            due("undo()", faulty.undo(), 3 - i);
            due("the time", faulty.count(0), 30 - 10 * i);
        }
    }

    private static void playLikeCalls() {
        sentence("Promise 23: Does all commands of the text");
        samePlayed("w0,0;", () -> Checks.written(2), x -> x.write(0, 0, 0));
        samePlayed("u11,999;", () -> Checks.written(2), x -> x.write(11, 999, 1));
        samePlayed("t1;", Checks::busy, x -> x.tick(1));
        samePlayed("t200;", Checks::busy, x -> x.tick(200));
        samePlayed("x;", Checks::busy, PagePairs::cut);
        samePlayed("x;", PagePairsUndoAndTexts::losing, PagePairs::cut);
        samePlayed("o;", Checks::inBackups, PagePairs::on);
        samePlayed("s;", () -> Checks.written(2), PagePairs::turn);
        samePlayed("c0;", PagePairsUndoAndTexts::threeInOther, x -> x.clean(0));
        samePlayed("c1;", () -> Checks.written(2), x -> x.clean(1));
        samePlayed("e1;", () -> Checks.written(2), x -> x.erase(1));
        samePlayed("e0;", PagePairsUndoAndTexts::cleanedOut, x -> x.erase(0));
    }

    /** The command in a text and its call come to the same, whatever is done later. */
    private static void samePlayed(String command, Supplier<PagePairs> made, ToIntFunction<PagePairs> call) {
        Checks.alike("play of " + command, () -> {
            PagePairs x = made.get();
            Checks.typeAll(x, command);
            due("play of " + command, x.play(), 1);
            return x;
        }, () -> {
            PagePairs x = made.get();
            Checks.typeAll(x, command);
            due("the call of " + command + " is refused", call.applyAsInt(x) < 0 ? 1 : 0, 0);
            return x;
        });
    }
}
