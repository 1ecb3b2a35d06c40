import java.util.List;
import java.util.function.Supplier;

/**
 * The edges of the promises 1 to 10, the calls that change something: the least and the greatest argument and the
 * one beyond each, what is empty and what is full, each error, which of several it is, and that it changes nothing.
 */
public final class PagePairsChanging {
    private static final List<Supplier<PagePairs>> STATES = Checks.states();

    public static void main(String[] args) {
        newObject();
        write();
        writeUpToEight();
        tick();
        tickUpTo9000();
        tickAnswers();
        cut();
        on();
        turn();
        turnBesideWriting();
        clean();
        cleanAnswers();
        erase();
        slow();
        slowGoesOn();
        set();
        setAnswers();
        setGoesOn();
        Checks.end();
    }

    private static void sentence(String words) {
        Checks.sentence(words);
    }

    private static void due(String call, int got, int want) {
        Checks.due(call, got, want);
    }

    private static PagePairs switchedOff() {
        PagePairs x = new PagePairs();
        x.cut();
        return x;
    }

    // ---- promise 1

    private static void newObject() {
        sentence("Promise 1: Creates two blank blocks; the power is on");
        PagePairs x = new PagePairs();
        for (int block = 0; block < 2; block++) {
            for (int position = 0; position < 16; position++) {
                due("pageOf", x.pageOf(block, position, 0), 0);
            }
            for (int wordline = 0; wordline < 8; wordline++) {
                due("backupOf", x.backupOf(block, wordline, 0), Checks.NONE);
            }
        }
        due("the power", x.count(1), 1);
        due("on()", x.on(), Checks.IMPOSSIBLE);
        PagePairs other = Checks.typed("t1;");
        other.write(1, 1, 0);
        other.tick(2);
        other.cut();
        sentence("Promise 1: a new object is not another one");
        int[] counts = {0, 1, 0, 0, 0, 0, Checks.NONE, 0, 0, 0, 0, 0, 0, 0, 0, 0, 0, 0};
        for (int what = 0; what < counts.length; what++) {
            due("count(" + what + ")", x.count(what), counts[what]);
        }
    }

    // ---- promise 2

    private static void write() {
        sentence("Promise 2: INVALID_ARGUMENT if an argument is out of range");
        Checks.range("write, its key", STATES, (x, key) -> x.write(key, 0, 0), 0, 11);
        Checks.range("write, its value", STATES, (x, value) -> x.write(0, value, 0), 0, 999);
        Checks.range("write, how urgent", STATES, (x, urgent) -> x.write(0, 0, urgent), 0, 1);
        sentence("Promise 2: NOT_POSSIBLE if the power is off");
        Checks.leavesAll("write", PagePairsChanging::switchedOff, x -> x.write(0, 0, 0), Checks.IMPOSSIBLE);
        Checks.leavesAll("write", Checks::off, x -> x.write(11, 999, 1), Checks.IMPOSSIBLE);
        Checks.leavesAll("write, wrong", Checks::off, x -> x.write(12, 0, 0), Checks.INVALID);
        sentence("Promise 2: LIMIT_REACHED if 8 wait");
        Checks.leavesAll("write", Checks::busy, x -> x.write(0, 0, 0), Checks.LIMIT);
        Checks.leavesAll("write", Checks::crowded, x -> x.write(0, 0, 1), Checks.LIMIT);
        Checks.leavesAll("write, wrong", Checks::crowded, x -> x.write(0, 0, 2), Checks.INVALID);
    }

    private static void writeUpToEight() {
        sentence("Promise 2: Returns how many requests wait then; LIMIT_REACHED if 8 wait");
        PagePairs x = new PagePairs();
        for (int many = 1; many <= 8; many++) {
            due("write", x.write(0, 0, many % 2), many);
        }
        due("a ninth one", x.write(0, 0, 0), Checks.LIMIT);
        x.tick(1);
        due("without the one that is being written", x.write(0, 0, 0), 8);
        due("a ninth one", x.write(0, 0, 0), Checks.LIMIT);
        x.cut();
        x.on();
        due("the first one behind a cut", x.write(0, 0, 0), 1);
        sentence("Promise 2: 1: urgent; 0: not");
        PagePairs urgent = new PagePairs();
        urgent.write(3, 30, 0);
        urgent.write(4, 40, 1);
        due("urgent", urgent.waits(0, 2), 1);
        due("its key", urgent.waits(0, 0), 4);
        due("not urgent", urgent.waits(1, 2), 2);
        due("its key", urgent.waits(1, 0), 3);
    }

    // ---- promise 3

    private static void tick() {
        sentence("Promise 3: INVALID_ARGUMENT if many is out of range");
        Checks.range("tick", STATES, PagePairs::tick, 1, 200);
        sentence("Promise 3: NOT_POSSIBLE if the power is off");
        Checks.leavesAll("tick(1)", PagePairsChanging::switchedOff, x -> x.tick(1), Checks.IMPOSSIBLE);
        Checks.leavesAll("tick(200)", Checks::off, x -> x.tick(200), Checks.IMPOSSIBLE);
        Checks.leavesAll("tick(0)", Checks::off, x -> x.tick(0), Checks.INVALID);
    }

    private static PagePairs oneTickBefore9000() {
        PagePairs x = Checks.old(199);
        x.write(5, 5, 0);
        return x;
    }

    private static void tickUpTo9000() {
        sentence("Promise 3: LIMIT_REACHED if the time would be above 9000");
        Checks.leavesAll("9001", () -> Checks.old(200), x -> x.tick(1), Checks.LIMIT);
        Checks.leavesAll("9200", () -> Checks.old(200), x -> x.tick(200), Checks.LIMIT);
        Checks.leavesAll("9001", () -> Checks.old(199), x -> x.tick(2), Checks.LIMIT);
        Checks.leavesAll("9001", () -> Checks.old(1), x -> x.tick(200), Checks.LIMIT);
        Checks.leavesAll("something waits", PagePairsChanging::oneTickBefore9000, x -> x.tick(2), Checks.LIMIT);
        due("9000", Checks.old(0).tick(200), 0);
        due("9000", Checks.old(199).tick(1), 0);
        due("9000", Checks.old(200).count(0), 9000);
        PagePairs old = oneTickBefore9000();
        old.set(0, 1);
        due("the last tick", old.tick(1), 1);
        due("the time", old.count(0), 9000);
        due("a tick more", old.tick(1), Checks.LIMIT);
        due("tick(0)", old.tick(0), Checks.INVALID);
        old.cut();
        due("with the power off", old.tick(1), Checks.IMPOSSIBLE);
        due("tick(201)", old.tick(201), Checks.INVALID);
        sentence("Promise 3: the time would be above 9000: undo makes it less again");
        due("undo()", old.undo(), 3);
        due("undo()", old.undo(), 2);
        due("the last tick again", old.tick(1), 1);
    }

    private static void tickAnswers() {
        sentence("Promise 3: Returns how many requests are acknowledged in them");
        due("none", new PagePairs().tick(1), 0);
        PagePairs some = new PagePairs();
        for (int key = 0; key < 8; key++) {
            some.write(key, key, key % 2);
        }
        due("all of 8", some.tick(200), 8);
        due("none any more", some.tick(200), 0);
        PagePairs exact = new PagePairs();
        exact.write(0, 0, 0);
        due("its first tick", exact.tick(1), 0);
        due("its last tick", exact.tick(1), 1);
        due("not again", exact.tick(1), 0);
        PagePairs cleaned = Checks.written(3);
        cleaned.turn();
        cleaned.clean(0);
        due("none of those that are cleaned", cleaned.tick(200), 0);
        due("they are written", cleaned.count(3), 3);
        PagePairs restored = Checks.inBackups();
        restored.on();
        due("none of those that are restored", restored.tick(200), 0);
        due("they are written", restored.placeOf(1, 1), 6);
    }

    // ---- promises 4 and 5

    /** Without backups; the late page of wordline 0 is being written, whose early page is of this key. */
    private static PagePairs losing(int key) {
        PagePairs x = new PagePairs();
        x.set(2, 0);
        x.write(key, 50, 0);
        x.write((key + 1) % 12, 60, 0);
        x.write((key + 2) % 12, 70, 0);
        x.tick(5);
        return x;
    }

    private static void cut() {
        sentence("Promise 4: NOT_POSSIBLE if it is off");
        Checks.leavesAll("cut()", Checks::off, PagePairs::cut, Checks.IMPOSSIBLE);
        Checks.leavesAll("cut()", PagePairsChanging::switchedOff, PagePairs::cut, Checks.IMPOSSIBLE);
        sentence("Promise 4: Returns how many keys are lost");
        due("of a new object", new PagePairs().cut(), 0);
        due("nothing is being written", Checks.written(3).cut(), 0);
        due("with a backup", Checks.busy().cut(), 0);
        for (int key = 0; key < 12; key++) {
            PagePairs x = losing(key);
            due("one", x.cut(), 1);
            due("count(9)", x.count(9), 1);
            due("its place", x.placeOf(key, 0), Checks.NONE);
            x.on();
            due("no more", x.cut(), 0);
            due("count(9)", x.count(9), 1);
        }
        PagePairs same = losing(4);
        same.undo();
        same.undo();
        same.write(4, 80, 0);
        same.tick(5);
        due("the early page of the key that is being written", same.cut(), 1);
        due("read(4)", same.read(4), Checks.NONE);
    }

    private static PagePairs onWithBackups() {
        PagePairs x = Checks.inBackups();
        x.on();
        return x;
    }

    private static void on() {
        sentence("Promise 5: NOT_POSSIBLE if it is on");
        Checks.leavesAll("on()", PagePairs::new, PagePairs::on, Checks.IMPOSSIBLE);
        Checks.leavesAll("on()", Checks::busy, PagePairs::on, Checks.IMPOSSIBLE);
        Checks.leavesAll("on()", PagePairsChanging::onWithBackups, PagePairs::on, Checks.IMPOSSIBLE);
        sentence("Promise 5: Returns how many requests wait then");
        due("none", switchedOff().on(), 0);
        due("one", Checks.inBackup().on(), 1);
        due("two", Checks.inBackups().on(), 2);
        PagePairs busy = Checks.busy();
        busy.cut();
        due("the 8 of before are gone", busy.on(), 1);
        due("its urgency", busy.waits(0, 2), 0);
        due("the power", busy.count(1), 1);
        due("the 8 can come again", busy.write(0, 0, 0), 2);
    }

    // ---- promise 6

    private static PagePairs otherWritten() {
        PagePairs x = Checks.written(1);
        x.turn();
        return x;
    }

    private static PagePairs otherTorn() {
        PagePairs x = new PagePairs();
        Checks.tear(x, 3, 1);
        x.on();
        x.turn();
        return x;
    }

    private static PagePairs otherFull() {
        PagePairs x = Checks.written(16);
        x.turn();
        return x;
    }

    private static void turn() {
        sentence("Promise 6: NOT_POSSIBLE if the power is off");
        Checks.leavesAll("turn()", PagePairsChanging::switchedOff, PagePairs::turn, Checks.IMPOSSIBLE);
        Checks.leavesAll("turn()", Checks::off, PagePairs::turn, Checks.IMPOSSIBLE);
        sentence("Promise 6: NOT_POSSIBLE if something is being written");
        Checks.leavesAll("turn()", Checks::busy, PagePairs::turn, Checks.IMPOSSIBLE);
        sentence("Promise 6: NOT_POSSIBLE if the other block is not blank");
        Checks.leavesAll("turn()", PagePairsChanging::otherWritten, PagePairs::turn, Checks.IMPOSSIBLE);
        Checks.leavesAll("turn()", PagePairsChanging::otherTorn, PagePairs::turn, Checks.IMPOSSIBLE);
        Checks.leavesAll("turn()", PagePairsChanging::otherFull, PagePairs::turn, Checks.IMPOSSIBLE);
        sentence("Promise 6: Returns its number");
        PagePairs blank = new PagePairs();
        due("1", blank.turn(), 1);
        due("count(2)", blank.count(2), 1);
        due("0", blank.turn(), 0);
        due("count(2)", blank.count(2), 0);
        PagePairs crowded = Checks.crowded();
        due("from a full block, with 8 that wait", crowded.turn(), 1);
        due("count(3)", crowded.count(3), 0);
        due("they still wait", crowded.count(4), 8);
    }

    private static void turnBesideWriting() {
        sentence("Promise 6: NOT_POSSIBLE if something is being written");
        PagePairs x = new PagePairs();
        x.write(0, 0, 0);
        x.write(1, 1, 0);
        x.tick(1);
        due("in its first tick", x.turn(), Checks.IMPOSSIBLE);
        x.tick(1);
        due("when its last tick has gone by, with one that waits", x.turn(), 1);
        x.tick(2);
        due("that one is in the block 1", x.placeOf(1, 0), 1);
        PagePairs backup = Checks.written(2);
        backup.write(2, 2, 0);
        backup.tick(1);
        due("while its backup is made", backup.turn(), Checks.IMPOSSIBLE);
        backup.tick(5);
        due("with one tick left", backup.turn(), Checks.IMPOSSIBLE);
        backup.tick(1);
        due("done", backup.turn(), 1);
    }

    // ---- promise 7

    private static PagePairs nineInOther() {
        PagePairs x = Checks.written(9);
        x.turn();
        return x;
    }

    private static PagePairs eightInOtherAndOneWaits() {
        PagePairs x = Checks.written(8);
        x.turn();
        x.write(0, 1, 0);
        return x;
    }

    private static void clean() {
        sentence("Promise 7: INVALID_ARGUMENT if block is out of range");
        Checks.range("clean", STATES, PagePairs::clean, 0, 1);
        sentence("Promise 7: NOT_POSSIBLE if the power is off, or the block is active");
        Checks.leavesAll("off", PagePairsChanging::switchedOff, x -> x.clean(1), Checks.IMPOSSIBLE);
        Checks.leavesAll("off, and active", PagePairsChanging::switchedOff, x -> x.clean(0), Checks.IMPOSSIBLE);
        Checks.leavesAll("off, wrong", PagePairsChanging::switchedOff, x -> x.clean(2), Checks.INVALID);
        Checks.leavesAll("active, blank", PagePairs::new, x -> x.clean(0), Checks.IMPOSSIBLE);
        Checks.leavesAll("active, with keys", Checks::busy, x -> x.clean(0), Checks.IMPOSSIBLE);
        Checks.leavesAll("active, no room", Checks::crowded, x -> x.clean(0), Checks.IMPOSSIBLE);
        Checks.leavesAll("active, the block 1", PagePairsChanging::nineInOther, x -> x.clean(1), Checks.IMPOSSIBLE);
        sentence("Promise 7: LIMIT_REACHED if there is no room for them");
        Checks.leavesAll("9", PagePairsChanging::nineInOther, x -> x.clean(0), Checks.LIMIT);
        Checks.leavesAll("8 and one", PagePairsChanging::eightInOtherAndOneWaits, x -> x.clean(0), Checks.LIMIT);
        due("none comes, so there is room", Checks.crowded().clean(1), 0);
    }

    private static void cleanAnswers() {
        sentence("Promise 7: Returns how many requests come by it");
        PagePairs x = eightInOtherAndOneWaits();
        x.tick(1);
        due("8, one is being written", x.clean(0), 8);
        due("count(4)", x.count(4), 8);
        due("a second time", x.clean(0), Checks.LIMIT);
        PagePairs some = Checks.written(3);
        some.turn();
        some.write(5, 5, 0);
        due("3, not all that wait", some.clean(0), 3);
        due("count(4)", some.count(4), 4);
        due("3 again", some.clean(0), 3);
        due("no room", some.clean(0), Checks.LIMIT);
        due("count(4)", some.count(4), 7);
        due("of a blank block", new PagePairs().clean(1), 0);
    }

    // ---- promise 8

    /** Key 1 has its place in a backup of block 0, which is not active; no page of it is a place. */
    private static PagePairs backupInOther() {
        PagePairs x = onWithBackups();
        x.turn();
        x.tick(2);
        return x;
    }

    private static void erase() {
        sentence("Promise 8: INVALID_ARGUMENT if block is out of range");
        Checks.range("erase", STATES, PagePairs::erase, 0, 1);
        sentence("Promise 8: NOT_POSSIBLE if the power is off");
        Checks.leavesAll("erase(1)", PagePairsChanging::switchedOff, x -> x.erase(1), Checks.IMPOSSIBLE);
        Checks.leavesAll("erase(2)", PagePairsChanging::switchedOff, x -> x.erase(2), Checks.INVALID);
        sentence("Promise 8: NOT_POSSIBLE if the block is active");
        Checks.leavesAll("erase(0)", PagePairs::new, x -> x.erase(0), Checks.IMPOSSIBLE);
        Checks.leavesAll("erase(0)", Checks::busy, x -> x.erase(0), Checks.IMPOSSIBLE);
        Checks.leavesAll("erase(1)", PagePairsChanging::nineInOther, x -> x.erase(1), Checks.IMPOSSIBLE);
        sentence("Promise 8: NOT_POSSIBLE if a key is in it");
        Checks.leavesAll("a page", PagePairsChanging::otherWritten, x -> x.erase(0), Checks.IMPOSSIBLE);
        Checks.leavesAll("pages", PagePairsChanging::otherFull, x -> x.erase(0), Checks.IMPOSSIBLE);
        Checks.leavesAll("a backup", PagePairsChanging::backupInOther, x -> x.erase(0), Checks.IMPOSSIBLE);
        due("torn pages are no keys", otherTorn().erase(0), 1);
        sentence("Promise 8: Returns how often it was erased then");
        PagePairs x = new PagePairs();
        for (int times = 1; times <= 490; times++) {
            due("erase(1)", x.erase(1), times);
        }
        x.turn();
        due("the other one", x.erase(0), 1);
        due("count(12)", x.count(12), 1);
        due("count(13)", x.count(13), 490);
        x.set(3, 1);
        x.set(0, 9);
        x.slow(0, 5);
        x.write(0, 0, 0);
        due("doneIn()", x.doneIn(), 504);
        x.tick(200);
        x.tick(200);
        due("slow by wear", x.tick(103), 0);
        due("its last tick", x.tick(1), 1);
    }

    // ---- promise 9

    private static void slow() {
        sentence("Promise 9: INVALID_ARGUMENT if an argument is out of range");
        Checks.range("slow, its wordline", STATES, (x, wordline) -> x.slow(wordline, 0), 0, 7);
        Checks.range("slow, its ticks", STATES, (x, ticks) -> x.slow(0, ticks), 0, 5);
        due("wordline -1 and ticks 6", new PagePairs().slow(-1, 6), Checks.INVALID);
        due("wordline 8 and ticks -1", new PagePairs().slow(8, -1), Checks.INVALID);
        sentence("Promise 9: Returns what it was");
        PagePairs x = new PagePairs();
        for (int wordline = 0; wordline < 8; wordline++) {
            int was = 0;
            for (int ticks : new int[] {5, 0, 4, 1, 3, 2, 5}) {
                due("slow(" + wordline + ", " + ticks + ")", x.slow(wordline, ticks), was);
                due("count", x.count(30 + wordline), ticks);
                was = ticks;
            }
        }
        sentence("Promise 9: no error for a power that is off");
        due("slow(7, 5)", Checks.off().slow(7, 5), 0);
        sentence("Promise 9: of both blocks");
        PagePairs both = new PagePairs();
        both.slow(0, 1);
        both.write(0, 0, 0);
        due("block 0", both.tick(2), 0);
        due("block 0", both.tick(1), 1);
        both.turn();
        both.write(0, 0, 0);
        due("block 1", both.tick(2), 0);
        due("block 1", both.tick(1), 1);
    }

    private static void slowGoesOn() {
        sentence("Promise 9: a writing that has begun goes on as told");
        PagePairs begun = Checks.busy();
        begun.slow(0, 5);
        due("count(6)", begun.count(6), 4);
        due("its last tick", begun.tick(4), 1);
        PagePairs backup = Checks.written(2);
        backup.write(2, 2, 0);
        backup.tick(1);
        backup.slow(0, 5);
        due("while its backup is made", backup.count(6), 6);
        due("its last tick", backup.tick(6), 1);
        PagePairs less = new PagePairs();
        less.slow(0, 5);
        less.write(0, 0, 0);
        less.tick(1);
        less.slow(0, 0);
        due("not earlier", less.tick(5), 0);
        due("its last tick", less.tick(1), 1);
        PagePairs waits = new PagePairs();
        waits.write(0, 0, 0);
        waits.slow(0, 5);
        due("one that waits has not begun", waits.tick(2), 0);
        due("its last tick", waits.tick(5), 1);
    }

    // ---- promise 10

    private static void set() {
        sentence("Promise 10: INVALID_ARGUMENT if an argument is out of range");
        Checks.range("set, what", STATES, (x, what) -> x.set(what, 1), 0, 3);
        Checks.range("set 0", STATES, (x, value) -> x.set(0, value), 1, 9);
        Checks.range("set 1", STATES, (x, value) -> x.set(1, value), 1, 20);
        Checks.range("set 2", STATES, (x, value) -> x.set(2, value), 0, 1);
        Checks.range("set 3", STATES, (x, value) -> x.set(3, value), 1, 99);
        for (int value = -1; value <= 100; value++) {
            PagePairs x = new PagePairs();
            due("set(-1, " + value + ")", x.set(-1, value), Checks.INVALID);
            due("set(4, " + value + ")", x.set(4, value), Checks.INVALID);
            due("set(5, " + value + ")", x.set(5, value), Checks.INVALID);
        }
    }

    private static void setAnswers() {
        sentence("Promise 10: Returns what it was");
        PagePairs x = new PagePairs();
        int[] first = {2, 5, 1, 3};
        int[] most = {9, 20, 1, 99};
        for (int what = 0; what < 4; what++) {
            due("the first value", x.set(what, 1), first[what]);
            due("one", x.set(what, most[what]), 1);
            due("the greatest", x.set(what, most[what]), most[what]);
        }
        due("setting 2, the greatest", x.set(2, 0), 1);
        due("setting 2, the least", x.set(2, 1), 0);
        sentence("Promise 10: no error for a power that is off");
        due("set(3, 99)", Checks.off().set(3, 99), 3);
    }

    private static void setGoesOn() {
        sentence("Promise 10: likewise (a writing that has begun goes on as told)");
        for (int what = 0; what < 4; what++) {
            PagePairs late = Checks.written(2);
            late.write(2, 2, 0);
            late.tick(1);
            late.set(what, what == 2 ? 0 : 1);
            due("setting " + what, late.count(6), 6);
            due("its backup is made", late.tick(2), 0);
            due("count(15)", late.count(15), 1);
            due("its last tick", late.tick(4), 1);
        }
        PagePairs without = Checks.written(2);
        without.set(2, 0);
        without.write(2, 2, 0);
        without.tick(1);
        without.set(2, 1);
        due("no backup", without.count(6), 4);
        due("its last tick", without.tick(4), 1);
        due("count(15)", without.count(15), 0);
        PagePairs worn = new PagePairs();
        for (int times = 0; times < 6; times++) {
            worn.erase(1);
        }
        worn.turn();
        worn.write(0, 0, 0);
        worn.tick(1);
        worn.set(3, 1);
        due("worn", worn.count(6), 3);
        PagePairs waits = new PagePairs();
        waits.write(0, 0, 0);
        waits.set(0, 9);
        due("one that waits has not begun", waits.tick(8), 0);
        due("its last tick", waits.tick(1), 1);
    }
}
