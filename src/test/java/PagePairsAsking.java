import java.util.List;
import java.util.function.Supplier;
import java.util.function.ToIntFunction;

/**
 * The edges of the promises 11 to 18, the calls that only tell something: the least and the greatest argument and
 * the one beyond each, what is empty and what is full, each error, which of several it is, and that nothing changes.
 */
public final class PagePairsAsking {
    private static final List<Supplier<PagePairs>> STATES = Checks.states();
    private static final List<Supplier<PagePairs>> FEW = List.of(Checks::busy, Checks::off);

    public static void main(String[] args) {
        read();
        placeOf();
        pageOf();
        backupOf();
        waits();
        countRange();
        countOfTicks();
        countOfBlocks();
        countLeft();
        countAcknowledged();
        countByCuts();
        countCells();
        countOthers();
        wouldLose();
        wouldLoseUpTo200();
        wouldLoseOfEach();
        doneIn();
        doneInUpToFull();
        doneInIsExact();
        nothingChanges();
        farOut();
        Checks.end();
    }

    private static void sentence(String words) {
        Checks.sentence(words);
    }

    private static void due(String call, int got, int want) {
        Checks.due(call, got, want);
    }

    // ---- promises 11 and 12

    private static void read() {
        sentence("Promise 11: INVALID_ARGUMENT if key is out of range");
        Checks.range("read", STATES, PagePairs::read, 0, 11);
        sentence("Promise 11: NOT_FOUND if it has no place");
        PagePairs x = new PagePairs();
        for (int key = 0; key < 12; key++) {
            due("read(" + key + ")", x.read(key), Checks.NONE);
        }
        x.write(0, 0, 0);
        due("it waits", x.read(0), Checks.NONE);
        x.tick(1);
        due("it is being written", x.read(0), Checks.NONE);
        x.tick(1);
        sentence("Promise 11: Returns the value where it is");
        due("the value 0", x.read(0), 0);
        x.write(11, 999, 0);
        x.tick(2);
        due("the value 999", x.read(11), 999);
        PagePairs off = Checks.off();
        due("with the power off, from a backup", off.read(0), 100);
        due("with the power off, from the other one", off.read(1), 101);
        due("with the power off", off.read(2), Checks.NONE);
    }

    private static void placeOf() {
        sentence("Promise 12: INVALID_ARGUMENT if an argument is out of range");
        Checks.range("placeOf, its key", STATES, (x, key) -> x.placeOf(key, 0), 0, 11);
        Checks.range("placeOf, what", STATES, (x, what) -> x.placeOf(0, what), 0, 2);
        Checks.range("placeOf, what of none", FEW, (x, what) -> x.placeOf(9, what), 0, 2);
        sentence("Promise 12: NOT_FOUND if the key has no place");
        for (int what = 0; what < 3; what++) {
            for (int key = 0; key < 12; key++) {
                due("placeOf", new PagePairs().placeOf(key, what), Checks.NONE);
            }
        }
        sentence("Promise 12: 1: the position, 16 plus the wordline for a backup");
        PagePairs all = Checks.written(16);
        placeIs(all, 4, 0, 4, 5);
        placeIs(all, 11, 0, 11, 12);
        placeIs(all, 3, 0, 15, 16);
        placeIs(Checks.inBackup(), 0, 0, 16, 1);
        placeIs(Checks.inBackups(), 1, 0, 17, 2);
        PagePairs last = Checks.written(15);
        Checks.tear(last, 5, 3);
        placeIs(last, 1, 0, 23, 14);
        PagePairs other = new PagePairs();
        other.turn();
        Checks.fill(other, 15);
        placeIs(other, 3, 1, 3, 4);
        placeIs(other, 2, 1, 14, 15);
        Checks.tear(other, 5, 3);
        placeIs(other, 1, 1, 23, 14);
    }

    private static void placeIs(PagePairs x, int key, int... facts) {
        for (int what = 0; what < facts.length; what++) {
            due("placeOf(" + key + ", " + what + ")", x.placeOf(key, what), facts[what]);
        }
    }

    // ---- promises 13 and 14

    private static void pageOf() {
        sentence("Promise 13: INVALID_ARGUMENT if an argument is out of range");
        Checks.range("pageOf, its block", STATES, (x, block) -> x.pageOf(block, 0, 0), 0, 1);
        Checks.range("pageOf, its position", STATES, (x, position) -> x.pageOf(0, position, 0), 0, 15);
        Checks.range("pageOf, what", STATES, (x, what) -> x.pageOf(0, 0, what), 0, 5);
        Checks.range("pageOf, what of a blank one", FEW, (x, what) -> x.pageOf(1, 15, what), 0, 5);
        sentence("Promise 13: NOT_FOUND for 1 to 3 if it is not written");
        PagePairs x = Checks.written(2);
        pageIs(x, 0, 1, 2, 1, 101, 2, 1, 0);
        pageIs(x, 0, 2, 0, Checks.NONE, Checks.NONE, Checks.NONE, 0, 1);
        x.write(2, 2, 0);
        x.tick(2);
        pageIs(x, 0, 2, 1, Checks.NONE, Checks.NONE, Checks.NONE, 0, 1);
        x.tick(1);
        pageIs(x, 0, 2, 1, Checks.NONE, Checks.NONE, Checks.NONE, 0, 1);
        x.cut();
        pageIs(x, 0, 2, 3, Checks.NONE, Checks.NONE, Checks.NONE, 0, 1);
        pageIs(x, 0, 0, 3, Checks.NONE, Checks.NONE, Checks.NONE, 0, 0);
        pageIs(x, 0, 15, 0, Checks.NONE, Checks.NONE, Checks.NONE, 7, 1);
        pageIs(x, 1, 0, 0, Checks.NONE, Checks.NONE, Checks.NONE, 0, 0);
        sentence("Promise 13: 1: its key; 2: its value; 3: its stamp; 4: its wordline; 5: 1 if it is a late page");
        PagePairs full = Checks.written(16);
        pageIs(full, 0, 0, 2, 0, 100, 1, 0, 0);
        pageIs(full, 0, 14, 2, 2, 114, 15, 6, 1);
        pageIs(full, 0, 15, 2, 3, 115, 16, 7, 1);
        full.turn();
        full.write(11, 0, 0);
        full.tick(2);
        pageIs(full, 1, 0, 2, 11, 0, 17, 0, 0);
    }

    private static void pageIs(PagePairs x, int block, int position, int... facts) {
        for (int what = 0; what < facts.length; what++) {
            due("pageOf(" + block + ", " + position + ", " + what + ")", x.pageOf(block, position, what), facts[what]);
        }
    }

    private static void backupOf() {
        sentence("Promise 14: INVALID_ARGUMENT if an argument is out of range");
        Checks.range("backupOf, its block", STATES, (x, block) -> x.backupOf(block, 0, 0), 0, 1);
        Checks.range("backupOf, its wordline", STATES, (x, wordline) -> x.backupOf(0, wordline, 0), 0, 7);
        Checks.range("backupOf, what", STATES, (x, what) -> x.backupOf(0, 0, what), 0, 3);
        Checks.range("backupOf, what of none", FEW, (x, what) -> x.backupOf(1, 7, what), 0, 3);
        sentence("Promise 14: NOT_FOUND if there is none");
        PagePairs x = new PagePairs();
        noBackup(x, 0, 0);
        noBackup(x, 1, 7);
        sentence("Promise 14: 0: 1 if it is complete, otherwise 0; 1: its key; 2: its value; 3: its stamp");
        PagePairs made = Checks.written(2);
        made.write(2, 2, 0);
        noBackup(made, 0, 0);
        made.tick(1);
        backupIs(made, 0, 0, 0, 0, 100, 1);
        made.tick(1);
        backupIs(made, 0, 0, 1, 0, 100, 1);
        made.tick(4);
        backupIs(made, 0, 0, 1, 0, 100, 1);
        made.tick(1);
        noBackup(made, 0, 0);
        PagePairs off = Checks.off();
        backupIs(off, 0, 0, 1, 0, 100, 1);
        backupIs(off, 0, 1, 1, 1, 101, 2);
        noBackup(off, 0, 2);
        noBackup(off, 1, 0);
        PagePairs last = new PagePairs();
        last.turn();
        Checks.fill(last, 15);
        last.write(11, 999, 0);
        last.tick(1);
        backupIs(last, 1, 7, 0, 1, 113, 14);
        noBackup(last, 1, 6);
        noBackup(last, 0, 7);
    }

    private static void backupIs(PagePairs x, int block, int wordline, int... facts) {
        for (int what = 0; what < facts.length; what++) {
            due("backupOf(" + block + ", " + wordline + ", " + what + ")", x.backupOf(block, wordline, what),
                    facts[what]);
        }
    }

    private static void noBackup(PagePairs x, int block, int wordline) {
        backupIs(x, block, wordline, Checks.NONE, Checks.NONE, Checks.NONE, Checks.NONE);
    }

    // ---- promise 15

    private static void waits() {
        sentence("Promise 15: INVALID_ARGUMENT if index is negative or what is out of range");
        Checks.range("waits, its index", STATES, (x, index) -> x.waits(index, 0), 0, Integer.MAX_VALUE);
        Checks.range("waits, what", STATES, (x, what) -> x.waits(0, what), 0, 2);
        Checks.range("waits, what of none", FEW, (x, what) -> x.waits(8, what), 0, 2);
        sentence("Promise 15: NOT_FOUND if there are not so many");
        for (int many = 0; many <= 8; many++) {
            PagePairs x = new PagePairs();
            for (int i = 0; i < many; i++) {
                x.write(i, 10 * i, 0);
            }
            for (int index = 0; index < 10; index++) {
                due(index + " of " + many, x.waits(index, 0), index < many ? index : Checks.NONE);
                due(index + " of " + many, x.waits(index, 1), index < many ? 10 * index : Checks.NONE);
                due(index + " of " + many, x.waits(index, 2), index < many ? 2 : Checks.NONE);
            }
            due("the greatest index", x.waits(Integer.MAX_VALUE, 0), Checks.NONE);
        }
        sentence("Promise 15: in the order in which they are taken");
        PagePairs x = Checks.busy();
        int[] keys = {3, 5, 7, 9, 4, 6, 8, 10};
        for (int index = 0; index < 8; index++) {
            due("key of " + index, x.waits(index, 0), keys[index]);
            due("value of " + index, x.waits(index, 1), 198 + keys[index]);
            due("urgency of " + index, x.waits(index, 2), index < 4 ? 1 : 2);
        }
        x.tick(5);
        due("the first one is taken", x.waits(0, 0), 5);
        due("7 wait", x.waits(6, 0), 10);
        due("no eighth", x.waits(7, 0), Checks.NONE);
        PagePairs restored = Checks.off();
        due("with the power off", restored.waits(0, 0), Checks.NONE);
        restored.on();
        due("the least urgency", restored.waits(0, 2), 0);
        PagePairs cleaned = Checks.written(1);
        cleaned.turn();
        cleaned.clean(0);
        due("the greatest urgency", cleaned.waits(0, 2), 3);
    }

    // ---- promise 16

    private static void countRange() {
        sentence("Promise 16: INVALID_ARGUMENT if what is out of range");
        Checks.range("count", STATES, PagePairs::count, 0, 17);
        Checks.range("count", STATES, PagePairs::count, 20, 23);
        Checks.range("count", STATES, PagePairs::count, 30, 37);
        for (int what = -20; what <= 60; what++) {
            boolean known = what >= 0 && what <= 17 || what >= 20 && what <= 23 || what >= 30 && what <= 37;
            due("count(" + what + ") is known", new PagePairs().count(what) == Checks.INVALID ? 0 : 1, known ? 1 : 0);
        }
    }

    private static void countOfTicks() {
        sentence("Promise 16: 0: the time");
        due("the least", new PagePairs().count(0), 0);
        due("the greatest", Checks.old(200).count(0), 9000);
        sentence("Promise 16: 1: 1 if the power is on, otherwise 0");
        PagePairs x = new PagePairs();
        due("on", x.count(1), 1);
        x.cut();
        due("off", x.count(1), 0);
        x.on();
        due("on again", x.count(1), 1);
        sentence("Promise 16: 14: cuts so far");
        due("one", x.count(14), 1);
        for (int times = 2; times <= 20; times++) {
            x.cut();
            x.cut();
            due("a refused one is none", x.count(14), times);
            x.on();
        }
    }

    private static void countOfBlocks() {
        sentence("Promise 16: 2: the active block; 3: its next position (16 if it is full)");
        PagePairs x = new PagePairs();
        x.turn();
        due("block 1", x.count(2), 1);
        for (int position = 0; position < 16; position++) {
            due("the next position", x.count(3), position);
            x.write(1, 1, 0);
            due("one that waits has no position", x.count(3), position);
            x.tick(7);
        }
        due("full", x.count(3), 16);
        x.turn();
        due("block 0", x.count(2), 0);
        due("its next position", x.count(3), 0);
        PagePairs torn = Checks.written(3);
        Checks.tear(torn, 5, 1);
        due("behind a torn page", torn.count(3), 4);
        sentence("Promise 16: 12, 13: how often the blocks 0 and 1 were erased");
        PagePairs erased = new PagePairs();
        erased.erase(1);
        erased.erase(1);
        due("count(12)", erased.count(12), 0);
        due("count(13)", erased.count(13), 2);
        erased.turn();
        erased.erase(0);
        due("count(12)", erased.count(12), 1);
        due("count(13)", erased.count(13), 2);
    }

    private static void countLeft() {
        sentence("Promise 16: 4: requests that wait; 5: 1 if something is being written, otherwise 0");
        PagePairs x = new PagePairs();
        due("none waits", x.count(4), 0);
        x.write(0, 0, 0);
        due("it waits", x.count(4), 1);
        due("it is not being written", x.count(5), 0);
        sentence("Promise 16: NOT_FOUND for 6 if nothing is being written");
        due("it waits", x.count(6), Checks.NONE);
        x.tick(1);
        due("being written", x.count(5), 1);
        due("it waits no more", x.count(4), 0);
        due("its last tick is left", x.count(6), 1);
        x.tick(1);
        due("written", x.count(5), 0);
        due("written", x.count(6), Checks.NONE);
        sentence("Promise 16: 6: ticks that are left for it, with those of the backup");
        PagePairs late = Checks.written(2);
        late.write(2, 2, 0);
        for (int left = 6; left > 0; left--) {
            late.tick(1);
            due("left", late.count(6), left);
        }
        late.tick(1);
        due("none left", late.count(6), Checks.NONE);
        PagePairs cut = Checks.busy();
        cut.cut();
        due("torn by a cut", cut.count(6), Checks.NONE);
        due("torn by a cut", cut.count(5), 0);
        due("8 at most", Checks.crowded().count(4), 8);
        PagePairs slowest = new PagePairs();
        slowest.set(1, 20);
        slowest.slow(0, 5);
        Checks.fill(slowest, 2);
        slowest.write(2, 2, 0);
        slowest.tick(1);
        due("the greatest without wear", slowest.count(6), 26);
    }

    private static void countAcknowledged() {
        sentence("Promise 16: 7: acknowledged requests so far");
        PagePairs x = new PagePairs();
        due("none", x.count(7), 0);
        for (int many = 1; many <= 16; many++) {
            x.write(many % 12, many, many % 2);
            due("not when it waits", x.count(7), many - 1);
            x.tick(1);
            due("not when it begins", x.count(7), many - 1);
            x.tick(6);
            due("when its last tick has gone by", x.count(7), many);
        }
        x.turn();
        x.clean(0);
        x.write(5, 5, 1);
        x.tick(1);
        x.cut();
        due("not when it was gone by a cut", x.count(7), 16);
        PagePairs cleaned = Checks.written(4);
        cleaned.turn();
        cleaned.clean(0);
        cleaned.tick(50);
        due("not when it was cleaned", cleaned.count(7), 4);
        PagePairs restored = Checks.off();
        restored.on();
        restored.tick(50);
        due("not when it was restored", restored.count(7), 2);
    }

    private static void countByCuts() {
        sentence("Promise 16: 8: requests that were gone by cuts so far (those that were being written, too)");
        PagePairs x = Checks.busy();
        due("none yet", x.count(8), 0);
        x.cut();
        due("8 and one", x.count(8), 9);
        x.on();
        x.cut();
        due("and the one that came back", x.count(8), 10);
        sentence("Promise 16: 9: keys that were lost by cuts so far");
        PagePairs lost = new PagePairs();
        lost.set(2, 0);
        Checks.fill(lost, 2);
        for (int times = 1; times <= 7; times++) {
            Checks.tear(lost, 11, 1);
            due("lost by " + times, lost.count(9), times);
            lost.on();
            lost.write(times + 1, 1, 0);
            lost.tick(2);
        }
        Checks.tear(lost, 11, 1);
        due("the last late page", lost.count(9), 8);
        due("cuts", lost.count(14), 8);
        due("torn pages", lost.count(10), 16);
        due("full", lost.count(3), 16);
        due("none has a place", lost.count(11), 0);
    }

    private static void countCells() {
        sentence("Promise 16: 10: torn pages of both blocks");
        PagePairs x = new PagePairs();
        Checks.tear(x, 1, 1);
        due("one", x.count(10), 1);
        x.on();
        x.turn();
        Checks.tear(x, 1, 1);
        due("one in each", x.count(10), 2);
        x.on();
        x.erase(0);
        due("erased", x.count(10), 1);
        sentence("Promise 16: 11: keys that have a place");
        PagePairs keys = new PagePairs();
        for (int many = 0; many < 12; many++) {
            due("keys", keys.count(11), many);
            keys.write(many, 1, 0);
            keys.tick(7);
        }
        due("all", keys.count(11), 12);
        keys.write(0, 1, 0);
        keys.tick(7);
        due("a key that had one", keys.count(11), 12);
        due("in backups, too", Checks.inBackups().count(11), 2);
        sentence("Promise 16: 15: backups that were made so far (completed)");
        PagePairs made = Checks.written(2);
        due("none", made.count(15), 0);
        Checks.tear(made, 2, 1);
        due("not one that is not complete", made.count(15), 0);
        PagePairs all = Checks.written(16);
        due("8, which are gone", all.count(15), 8);
        PagePairs erased = Checks.inBackups();
        erased.on();
        erased.turn();
        erased.tick(4);
        erased.erase(0);
        due("erased ones, too", erased.count(15), 2);
    }

    private static void countOthers() {
        sentence("Promise 16: 16: states in the history; 17: the length of the text");
        PagePairs x = new PagePairs();
        for (int many = 1; many <= 6; many++) {
            x.slow(0, 1);
            due("states", x.count(16), Math.min(4, many));
        }
        for (int many = 1; many <= 60; many++) {
            x.type('t');
            due("the length", x.count(17), many);
        }
        x.type('t');
        due("at most", x.count(17), 60);
        x.clearText();
        due("empty", x.count(17), 0);
        sentence("Promise 16: 20 to 23: the settings 0 to 3; 30 plus a wordline: its slowness");
        int[] settings = {9, 20, 0, 99};
        for (int what = 0; what < 4; what++) {
            x.set(what, settings[what]);
        }
        for (int wordline = 0; wordline < 8; wordline++) {
            x.slow(wordline, wordline % 6);
        }
        for (int what = 0; what < 4; what++) {
            due("setting " + what, x.count(20 + what), settings[what]);
        }
        for (int wordline = 0; wordline < 8; wordline++) {
            due("slowness of " + wordline, x.count(30 + wordline), wordline % 6);
        }
    }

    // ---- promise 17

    private static void wouldLose() {
        sentence("Promise 17: INVALID_ARGUMENT if ticks is out of range");
        Checks.range("wouldLose", STATES, PagePairs::wouldLose, 0, 200);
        sentence("Promise 17: NOT_POSSIBLE if the power is off");
        Checks.leavesAll("wouldLose(0)", Checks::off, x -> x.wouldLose(0), Checks.IMPOSSIBLE);
        Checks.leavesAll("wouldLose(200)", Checks::off, x -> x.wouldLose(200), Checks.IMPOSSIBLE);
        Checks.leavesAll("wouldLose(201)", Checks::off, x -> x.wouldLose(201), Checks.INVALID);
        Checks.leavesAll("wouldLose(-1)", Checks::off, x -> x.wouldLose(-1), Checks.INVALID);
        sentence("Promise 17: Returns the set of keys");
        due("of a new object", new PagePairs().wouldLose(0), 0);
        due("of a new object", new PagePairs().wouldLose(200), 0);
        due("of what is never lost", Checks.written(12).wouldLose(200), 0);
        sentence("Promise 17: it names no error for the time");
        due("at 9000", Checks.old(200).wouldLose(200), 0);
        PagePairs x = Checks.old(195);
        x.set(2, 0);
        x.set(0, 1);
        x.write(3, 1, 0);
        x.write(4, 1, 0);
        x.tick(2);
        x.write(5, 1, 0);
        due("8998, one that begins", x.wouldLose(1), 8);
        due("9000", x.wouldLose(3), 8);
    }

    /** Early pages take 22 ticks, late ones 30; that of wordline 3 begins in the tick 201. One tick has gone by. */
    private static void wouldLoseUpTo200() {
        sentence("Promise 17: which keys would be lost if some ticks went by (0 to 200), and the power was cut then");
        PagePairs x = new PagePairs();
        for (int times = 0; times < 20; times++) {
            x.erase(1);
        }
        x.turn();
        x.set(3, 1);
        x.set(2, 0);
        x.set(0, 2);
        x.set(1, 10);
        x.write(0, 0, 0);
        x.tick(1);
        for (int key = 1; key <= 8; key++) {
            x.write(key, key, 0);
        }
        int[] begins = {45, 97, 149, 201};
        int[] keyOfEarly = {0, 1, 3, 5};
        for (int ticks = 0; ticks <= 200; ticks++) {
            int lost = 0;
            for (int late = 0; late < 4; late++) {
                int time = ticks + 1;
                if (time >= begins[late] && time < begins[late] + 29) {
                    lost = 1 << keyOfEarly[late];
                }
            }
            due("wouldLose(" + ticks + ")", x.wouldLose(ticks), lost);
        }
        due("199 as told", x.wouldLose(199), 0);
        due("200 as told", x.wouldLose(200), 1 << 5);
        x.tick(200);
        due("none has gone by more", x.wouldLose(0), 1 << 5);
        due("cut()", x.cut(), 1);
        due("lost", x.read(5), Checks.NONE);
    }

    private static void wouldLoseOfEach() {
        sentence("Promise 17: bit k for the key k");
        for (int key = 0; key < 12; key++) {
            PagePairs x = new PagePairs();
            x.set(2, 0);
            x.write(key, 1, 0);
            x.write((key + 1) % 12, 1, 0);
            x.write((key + 2) % 12, 1, 0);
            due("ahead of it", x.wouldLose(4), 0);
            for (int ticks = 5; ticks < 9; ticks++) {
                due("behind " + ticks, x.wouldLose(ticks), 1 << key);
            }
            due("behind it", x.wouldLose(9), 0);
            due("no cut is made", x.count(14), 0);
            due("no key is lost", x.count(9), 0);
        }
        sentence("Promise 17: had a place then, not now");
        PagePairs later = new PagePairs();
        later.set(2, 0);
        later.write(3, 1, 0);
        later.write(4, 1, 0);
        later.write(5, 1, 0);
        due("the place comes in these ticks", later.wouldLose(5), 8);
        due("it has none now", later.read(3), Checks.NONE);
        sentence("Promise 17: with backups nothing is lost");
        PagePairs busy = Checks.busy();
        for (int ticks = 0; ticks <= 200; ticks++) {
            due("wouldLose(" + ticks + ")", busy.wouldLose(ticks), 0);
        }
        sentence("Promise 17: lost, too, if its place has another stamp");
        PagePairs older = new PagePairs();
        older.set(2, 0);
        for (int value = 0; value < 4; value++) {
            older.write(value == 2 ? 9 : 7, value, 0);
        }
        older.tick(4);
        due("the early page of wordline 0 is older", older.wouldLose(1), 0);
        due("its next one", older.wouldLose(5), 0);
        older.tick(7);
        older.write(8, 8, 0);
        due("position 3 is the place of key 7", older.placeOf(7, 1), 3);
        due("wordline 1 holds an older copy", older.wouldLose(1), 0);
        older.write(1, 1, 0);
        older.write(2, 2, 0);
        due("wordline 2 holds its place", older.wouldLose(8), 1 << 7);
        older.tick(8);
        due("cut()", older.cut(), 1);
        due("an older copy is left", older.read(7), 1);
    }

    // ---- promise 18

    private static void doneIn() {
        sentence("Promise 18: Returns the ticks, 0 if there are none");
        due("a new object", new PagePairs().doneIn(), 0);
        due("all are done", Checks.written(5).doneIn(), 0);
        due("a full block", Checks.written(16).doneIn(), 0);
        PagePairs one = new PagePairs();
        one.write(0, 0, 0);
        due("one that waits", one.doneIn(), 2);
        one.tick(1);
        due("one that is being written", one.doneIn(), 1);
        one.tick(1);
        due("none", one.doneIn(), 0);
        PagePairs least = new PagePairs();
        least.set(0, 1);
        least.write(0, 0, 0);
        due("the least", least.doneIn(), 1);
        sentence("Promise 18: NOT_POSSIBLE if the power is off");
        Checks.leavesAll("doneIn()", Checks::off, PagePairs::doneIn, Checks.IMPOSSIBLE);
        PagePairs full = Checks.crowded();
        due("doneIn()", full.doneIn(), Checks.NONE);
        full.cut();
        due("off, and full", full.doneIn(), Checks.IMPOSSIBLE);
        full.on();
        due("on, and nothing waits", full.doneIn(), 0);
        sentence("Promise 18: it names no error for the time");
        PagePairs old = Checks.old(200);
        old.write(0, 0, 0);
        due("at 9000", old.doneIn(), 2);
    }

    private static void doneInUpToFull() {
        sentence("Promise 18: NOT_FOUND if the active block would be full before");
        Checks.leavesAll("doneIn()", Checks::crowded, PagePairs::doneIn, Checks.NONE);
        for (int written = 8; written <= 16; written++) {
            for (int waiting = 0; waiting <= 8; waiting++) {
                PagePairs x = Checks.written(written);
                int ticks = 0;
                for (int i = 0; i < waiting; i++) {
                    x.write(i, i, 0);
                    ticks += x.pageOf(0, Math.min(15, written + i), 5) == 1 ? 7 : 2;
                }
                due(waiting + " behind " + written, x.doneIn(), written + waiting <= 16 ? ticks : Checks.NONE);
            }
        }
        PagePairs last = Checks.written(15);
        last.write(0, 0, 0);
        last.tick(1);
        due("the last page is being written, none waits", last.doneIn(), 6);
        last.write(0, 0, 0);
        due("the last page is being written, one waits", last.doneIn(), Checks.NONE);
        last.tick(6);
        due("full, one waits", last.doneIn(), Checks.NONE);
        last.turn();
        due("in the other block", last.doneIn(), 2);
    }

    private static void doneInIsExact() {
        sentence("Promise 18: in how many ticks all requests that wait or are being written would be done");
        PagePairs x = new PagePairs();
        x.set(0, 9);
        x.set(1, 20);
        for (int wordline = 0; wordline < 8; wordline++) {
            x.slow(wordline, 5);
        }
        x.write(0, 0, 0);
        x.tick(1);
        for (int key = 1; key <= 8; key++) {
            x.write(key, key, key % 2);
        }
        due("5 early ones, and 4 late ones", x.doneIn(), 5 * 14 + 4 * 27 - 1);
        x.tick(176);
        due("one tick is left", x.doneIn(), 1);
        due("being written", x.count(5), 1);
        x.tick(1);
        due("done", x.doneIn(), 0);
        due("nothing is being written", x.count(5), 0);
        due("all are acknowledged", x.count(7), 9);
        PagePairs passed = Checks.written(1);
        passed.turn();
        for (int times = 0; times < 8; times++) {
            passed.clean(0);
        }
        due("one is written, the others are passed over in the next tick", passed.doneIn(), 3);
        passed.tick(2);
        due("they wait", passed.count(4), 7);
        due("one tick", passed.doneIn(), 1);
        passed.tick(1);
        due("none waits", passed.count(4), 0);
        due("done", passed.doneIn(), 0);
        PagePairs restored = Checks.off();
        restored.on();
        due("those that are restored: 2 and 5", restored.doneIn(), 7);
    }

    // ---- all of them

    private static void unchangedBy(String name, ToIntFunction<PagePairs> call) {
        for (Supplier<PagePairs> made : STATES) {
            Checks.leavesAll(name, made, call, call.applyAsInt(made.get()));
        }
    }

    private static void nothingChanges() {
        sentence("The changes are the calls of write, tick, cut, on, turn, clean, erase, slow, set and play");
        unchangedBy("read", x -> x.read(0));
        unchangedBy("placeOf", x -> x.placeOf(0, 1));
        unchangedBy("pageOf", x -> x.pageOf(0, 2, 0));
        unchangedBy("backupOf", x -> x.backupOf(0, 0, 0));
        unchangedBy("waits", x -> x.waits(0, 0));
        unchangedBy("count", x -> x.count(6));
        unchangedBy("wouldLose(0)", x -> x.wouldLose(0));
        unchangedBy("wouldLose(5)", x -> x.wouldLose(5));
        unchangedBy("wouldLose(200)", x -> x.wouldLose(200));
        unchangedBy("doneIn", PagePairs::doneIn);
        unchangedBy("fault", x -> x.fault(0));
    }

    /** No call may fail to answer, whatever its arguments are. */
    private static void farOut() {
        sentence("An argument is out of its range");
        int[] far = {Integer.MIN_VALUE, Integer.MIN_VALUE + 1, -1000, -4, Integer.MAX_VALUE - 1, Integer.MAX_VALUE};
        for (Supplier<PagePairs> made : STATES) {
            for (int a : far) {
                PagePairs x = made.get();
                int[] answers = {x.tick(a), x.clean(a), x.erase(a), x.read(a), x.count(a), x.wouldLose(a), x.type(a),
                    x.fault(a)};
                for (int answer : answers) {
                    due("a call with " + a, answer, Checks.INVALID);
                }
                for (int b : far) {
                    int[] ofTwo = {x.slow(a, b), x.set(a, b), x.placeOf(a, b), x.waits(a, b)};
                    for (int answer : ofTwo) {
                        due("a call with " + a + ", " + b, answer, Checks.INVALID);
                    }
                    for (int c : far) {
                        due("write(" + a + ", " + b + ", " + c + ")", x.write(a, b, c), Checks.INVALID);
                        due("pageOf(" + a + ", " + b + ", " + c + ")", x.pageOf(a, b, c), Checks.INVALID);
                    }
                    due("backupOf(" + a + ", 0, " + b + ")", x.backupOf(a, 0, b), Checks.INVALID);
                }
            }
        }
    }
}
