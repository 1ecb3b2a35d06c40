/** The boundary cases that the document's "Terms" name, sentence by sentence. */
public final class PagePairsTerms {
    private static final int[] WORDLINES = {0, 1, 0, 2, 1, 3, 2, 4, 3, 5, 4, 6, 5, 7, 6, 7};
    private static final int[] LATE = {0, 0, 1, 0, 1, 0, 1, 0, 1, 0, 1, 0, 1, 0, 1, 1};

    public static void main(String[] args) {
        blocks();
        pages();
        stamps();
        fullBlocks();
        blankBlocks();
        requests();
        ticks();
        passedOver();
        notPassedOver();
        writings();
        slownessOfEach();
        wear();
        backups();
        backupOfEach();
        goneBackups();
        places();
        cuts();
        tornEarlyPages();
        goneByCuts();
        powerOff();
        restored();
        restoredOfBoth();
        lostKeys();
        cleaning();
        roomForCleaning();
        erasing();
        settings();
        texts();
        numbers();
        faults();
        changes();
        histories();
        whichError();
        Checks.end();
    }

    private static void sentence(String words) {
        Checks.sentence(words);
    }

    private static void due(String call, int got, int want) {
        Checks.due(call, got, want);
    }

    // ---- blocks and pages

    private static void blocks() {
        sentence("Time is told in ticks, 0 at first");
        due("count(0)", new PagePairs().count(0), 0);
        sentence("the block 0 is the active one at first");
        PagePairs x = Checks.written(1);
        due("count(2)", x.count(2), 0);
        due("placeOf(0, 0)", x.placeOf(0, 0), 0);
        sentence("The pages of a block are written in a fixed order, the positions 0 to 15");
        PagePairs all = new PagePairs();
        for (int block = 0; block < 2; block++) {
            for (int position = 0; position < 16; position++) {
                due("count(3)", all.count(3), position);
                all.write(position % 12, position, 0);
                all.tick(7);
                due("placeOf 0", all.placeOf(position % 12, 0), block);
                due("placeOf 1", all.placeOf(position % 12, 1), position);
                due("pageOf 4", all.pageOf(block, position, 4), WORDLINES[position]);
                due("pageOf 5", all.pageOf(block, position, 5), LATE[position]);
            }
            all.turn();
        }
        sentence("its next position (16 if it is full)");
        due("count(3)", all.count(3), 16);
    }

    private static void pages() {
        sentence("A page is blank (at first), being written, written, or torn");
        PagePairs x = new PagePairs();
        for (int position = 0; position < 16; position++) {
            due("block 0", x.pageOf(0, position, 0), 0);
            due("block 1", x.pageOf(1, position, 0), 0);
        }
        x.write(0, 0, 0);
        x.write(11, 999, 0);
        due("blank while it waits", x.pageOf(0, 0, 0), 0);
        x.tick(1);
        due("being written", x.pageOf(0, 0, 0), 1);
        x.tick(1);
        due("written", x.pageOf(0, 0, 0), 2);
        due("blank until its tick", x.pageOf(0, 1, 0), 0);
        x.tick(2);
        sentence("A written page has a key (0 to 11), a value (0 to 999)");
        due("least key", x.pageOf(0, 0, 1), 0);
        due("least value", x.pageOf(0, 0, 2), 0);
        due("greatest key", x.pageOf(0, 1, 1), 11);
        due("greatest value", x.pageOf(0, 1, 2), 999);
        due("read(0)", x.read(0), 0);
        due("read(11)", x.read(11), 999);
        Checks.tear(x, 5, 3);
        sentence("being written, written, or torn");
        due("torn", x.pageOf(0, 2, 0), 3);
        due("a torn page has no key", x.pageOf(0, 2, 1), Checks.NONE);
        due("a torn page has no value", x.pageOf(0, 2, 2), Checks.NONE);
        due("a torn page has no stamp", x.pageOf(0, 2, 3), Checks.NONE);
    }

    private static void stamps() {
        sentence("the stamps 1, 2, 3 and so on are given in the order in which writings begin");
        PagePairs x = new PagePairs();
        x.write(1, 10, 0);
        x.write(2, 20, 1);
        x.tick(4);
        due("the urgent one begins first", x.placeOf(2, 2), 1);
        due("then the other", x.placeOf(1, 2), 2);
        PagePairs torn = new PagePairs();
        Checks.tear(torn, 1, 1);
        torn.on();
        torn.write(1, 1, 0);
        torn.tick(2);
        due("that of a torn page is not given again", torn.placeOf(1, 2), 2);
        torn.turn();
        torn.write(2, 2, 0);
        torn.tick(2);
        due("they go on in the other block", torn.placeOf(2, 2), 3);
        torn.write(3, 3, 0);
        torn.tick(2);
        torn.undo();
        torn.undo();
        torn.write(4, 4, 0);
        torn.tick(2);
        due("an undone one is given again", torn.placeOf(4, 2), 4);
        PagePairs passed = Checks.written(1);
        passed.turn();
        passed.clean(0);
        passed.clean(0);
        passed.clean(0);
        passed.write(3, 3, 0);
        passed.tick(10);
        due("asked for", passed.placeOf(3, 2), 2);
        due("cleaned", passed.placeOf(0, 2), 3);
        passed.write(4, 4, 0);
        passed.tick(10);
        due("those that are passed over get none", passed.placeOf(4, 2), 4);
    }

    private static void fullBlocks() {
        PagePairs[] full = {Checks.written(16), allTorn(), Checks.written(15)};
        Checks.tear(full[2], 3, 1);
        full[2].on();
        int[] torn = {0, 16, 1};
        for (int i = 0; i < full.length; i++) {
            PagePairs x = full[i];
            sentence("If all are written or torn, the block is full");
            due("torn pages", x.count(10), torn[i]);
            due("count(3)", x.count(3), 16);
            due("doneIn()", x.doneIn(), 0);
            due("write", x.write(5, 555, 1), 1);
            due("doneIn() with one that waits", x.doneIn(), Checks.NONE);
            int time = x.count(0);
            due("tick(200)", x.tick(200), 0);
            due("the time", x.count(0), time + 200);
            due("it still waits", x.waits(0, 1), 555);
            due("nothing is being written", x.count(5), 0);
            x.turn();
            due("the other block takes it", x.tick(2), 1);
            due("at its position 0", x.placeOf(5, 1), 0);
        }
        sentence("If all are written or torn: 15 of them are not all");
        PagePairs last = Checks.written(15);
        due("count(3)", last.count(3), 15);
        last.write(5, 555, 0);
        due("doneIn()", last.doneIn(), 7);
        due("tick(7)", last.tick(7), 1);
        due("the last page", last.pageOf(0, 15, 2), 555);
    }

    private static PagePairs allTorn() {
        PagePairs x = new PagePairs();
        for (int position = 0; position < 16; position++) {
            Checks.tear(x, 4, 1);
            due("torn at " + position, x.pageOf(0, position, 0), 3);
            x.on();
        }
        return x;
    }

    private static void blankBlocks() {
        sentence("The other block can be made the active one if it is blank as a whole");
        PagePairs x = new PagePairs();
        due("turn()", x.turn(), 1);
        due("turn()", x.turn(), 0);
        PagePairs written = Checks.written(1);
        written.turn();
        due("one page is written", written.turn(), Checks.IMPOSSIBLE);
        PagePairs torn = new PagePairs();
        Checks.tear(torn, 1, 1);
        torn.on();
        torn.turn();
        due("one page is torn", torn.turn(), Checks.IMPOSSIBLE);
        torn.erase(0);
        due("erased", torn.turn(), 0);
        PagePairs full = allTorn();
        full.turn();
        due("all pages are torn", full.turn(), Checks.IMPOSSIBLE);
        full.erase(0);
        due("erased", full.turn(), 0);
        due("from its position 0 on", full.count(3), 0);
    }

    // ---- requests

    /** Seven wait, with each urgency: 0 of key 0; 1 of 6, 7; 2 of 5, 8; 3 of 1, 0. */
    private static PagePairs ofEachUrgency() {
        PagePairs x = Checks.inBackup();
        x.on();
        x.turn();
        x.write(5, 50, 0);
        x.clean(0);
        x.write(6, 60, 1);
        x.write(7, 70, 1);
        x.write(8, 80, 0);
        return x;
    }

    private static void requests() {
        sentence("The one with the least urgency is taken first, of several the one that came first");
        PagePairs x = ofEachUrgency();
        int[] keys = {0, 6, 7, 5, 8, 1, 0};
        int[] urgencies = {0, 1, 1, 2, 2, 3, 3};
        int[] values = {100, 60, 70, 50, 80, 101, 100};
        for (int index = 0; index < 7; index++) {
            due("key of " + index, x.waits(index, 0), keys[index]);
            due("value of " + index, x.waits(index, 1), values[index]);
            due("urgency of " + index, x.waits(index, 2), urgencies[index]);
        }
        due("no eighth", x.waits(7, 0), Checks.NONE);
        due("doneIn()", x.doneIn(), 23);
        sentence("a request with the urgency 1 or 2 is acknowledged then");
        due("tick(22)", x.tick(22), 4);
        for (int position = 0; position < 6; position++) {
            due("position " + position, x.pageOf(1, position, 1), keys[position]);
        }
        due("the second one of key 0 waits", x.count(4), 1);
        due("it is passed over", x.tick(1), 0);
        due("it is gone", x.count(4), 0);
        due("no page for it", x.count(3), 6);
        sentence("At most 8 requests wait (without the one that is being written)");
        PagePairs most = Checks.busy();
        due("8 wait", most.count(4), 8);
        due("and one is being written", most.count(5), 1);
        due("a ninth one", most.write(0, 0, 1), Checks.LIMIT);
        most.tick(4);
        due("8 wait when its last tick has gone by", most.count(4), 8);
        most.tick(1);
        due("7 wait behind the next tick", most.count(4), 7);
        due("one more", most.write(0, 0, 1), 8);
    }

    private static void ticks() {
        sentence("In a tick the time becomes greater by 1");
        PagePairs x = new PagePairs();
        x.tick(1);
        due("tick(1)", x.count(0), 1);
        x.tick(200);
        due("tick(200)", x.count(0), 201);
        PagePairs busy = Checks.busy();
        int time = busy.count(0);
        busy.tick(33);
        due("also while there is something to do", busy.count(0), time + 33);
        sentence("its writing begins in this very tick, which is its first one");
        PagePairs one = new PagePairs();
        one.set(0, 1);
        one.write(3, 3, 0);
        due("one tick is enough for it", one.tick(1), 1);
        due("read(3)", one.read(3), 3);
        sentence("if nothing is being written, requests are taken until one is to be written: one in a tick");
        for (int key = 0; key < 8; key++) {
            one.write(key, key, 0);
        }
        due("tick(1)", one.tick(1), 1);
        due("7 wait", one.count(4), 7);
        sentence("The request goes to the next position");
        due("count(3)", one.count(3), 2);
        due("its key", one.pageOf(0, 1, 1), 0);
    }

    /** Two keys are in block 0, and key 0 is just being written in block 1, with one tick left. */
    private static PagePairs twoToClean() {
        PagePairs x = Checks.written(2);
        x.turn();
        x.write(0, 200, 0);
        x.tick(1);
        return x;
    }

    private static void passedOver() {
        sentence("is passed over (it is gone) if its place has another stamp");
        PagePairs x = twoToClean();
        due("clean(0)", x.clean(0), 2);
        due("not while something is being written", x.tick(1), 1);
        due("both wait", x.count(4), 2);
        due("the place of key 0 has another stamp", x.placeOf(0, 2), 3);
        sentence("requests are taken until one is to be written");
        x.tick(1);
        due("the next one is written in the same tick", x.pageOf(1, 1, 0), 1);
        due("its first tick", x.count(6), 1);
        due("none waits", x.count(4), 0);
        due("no acknowledgement", x.tick(1), 0);
        due("key 1", x.placeOf(1, 2), 4);
        due("key 0 is not written again", x.placeOf(0, 2), 3);
        sentence("requests are taken until one is to be written, or none waits");
        PagePairs eight = twoToClean();
        for (int times = 0; times < 4; times++) {
            eight.clean(0);
        }
        due("8 wait", eight.count(4), 8);
        eight.tick(1);
        due("8 wait", eight.count(4), 8);
        eight.tick(1);
        due("the first is gone, the second is being written", eight.count(4), 6);
        eight.tick(1);
        due("the others wait while it is being written", eight.count(4), 6);
        due("they are done in a tick", eight.doneIn(), 1);
        eight.tick(1);
        due("all are gone in one tick", eight.count(4), 0);
        due("two pages", eight.count(3), 2);
        due("they are not gone by a cut", eight.count(8), 0);
        due("they are not acknowledged", eight.count(7), 3);
        PagePairs all = Checks.written(1);
        all.turn();
        all.write(0, 200, 0);
        all.tick(1);
        for (int times = 0; times < 8; times++) {
            all.clean(0);
        }
        all.tick(1);
        due("8 wait, and all have another stamp", all.count(4), 8);
        all.tick(1);
        due("all 8 are gone in one tick", all.count(4), 0);
        due("one page", all.count(3), 1);
    }

    private static void notPassedOver() {
        sentence("if nothing is being written and the active block is not full, requests are taken");
        PagePairs x = Checks.written(1);
        x.turn();
        for (int i = 0; i < 15; i++) {
            x.write(1 + i % 11, i, 0);
            x.tick(7);
        }
        x.write(0, 700, 0);
        x.tick(1);
        due("clean(0)", x.clean(0), 1);
        due("the last page", x.tick(6), 1);
        due("another stamp", x.placeOf(0, 1), 15);
        due("doneIn()", x.doneIn(), Checks.NONE);
        x.tick(200);
        due("not passed over: the block is full", x.count(4), 1);
        x.erase(0);
        x.turn();
        x.tick(1);
        due("now it is", x.count(4), 0);
        due("no page for it", x.count(3), 0);
        sentence("a request with the urgency 0 or 3 is passed over: 1 and 2 are not");
        PagePairs same = new PagePairs();
        same.write(0, 1, 1);
        same.write(0, 2, 1);
        same.write(0, 3, 0);
        same.write(0, 4, 0);
        due("all are acknowledged", same.tick(13), 4);
        due("the last one", same.read(0), 4);
        sentence("is passed over if its place has another stamp: this one has not");
        PagePairs stays = Checks.written(1);
        stays.turn();
        stays.clean(0);
        stays.write(5, 5, 0);
        stays.tick(4);
        due("key 0 is written", stays.placeOf(0, 0), 1);
        PagePairs restored = Checks.inBackup();
        restored.on();
        restored.tick(2);
        due("key 0 is restored", restored.placeOf(0, 1), 3);
    }

    // ---- how long it takes

    /** The ticks of the writing that begins now; it is finished, too. */
    private static int ticksOf(PagePairs x) {
        x.write(11, 1, 0);
        x.tick(1);
        int left = x.count(5) == 0 ? 0 : x.count(6);
        x.tick(left + 1);
        return left + 1;
    }

    private static void writings() {
        sentence("setting 0 for an early page, setting 1 for a late one");
        int[][] settings = {{1, 1}, {9, 20}, {2, 5}};
        for (int[] told : settings) {
            PagePairs x = new PagePairs();
            x.set(0, told[0]);
            x.set(1, told[1]);
            x.set(2, 0);
            for (int position = 0; position < 16; position++) {
                due("position " + position, ticksOf(x), told[LATE[position]]);
            }
        }
        sentence("a backup of that is made first, in the first 2 ticks. Then the writing itself takes its ticks");
        PagePairs backed = new PagePairs();
        for (int position = 0; position < 16; position++) {
            due("position " + position, ticksOf(backed), LATE[position] == 1 ? 7 : 2);
        }
        sentence("When its last tick has gone by, the page is written; a request is acknowledged then");
        PagePairs last = Checks.written(2);
        last.write(2, 2, 0);
        due("one tick less", last.tick(6), 0);
        due("being written", last.pageOf(0, 2, 0), 1);
        due("the last tick", last.tick(1), 1);
        due("written", last.pageOf(0, 2, 0), 2);
        sentence("a request with the urgency 1 or 2 is acknowledged: 0 and 3 are not");
        PagePairs others = ofEachUrgency();
        due("the restored one", others.tick(2), 0);
        due("an urgent one", others.tick(2), 1);
        due("count(7), with two of the first ones", others.count(7), 3);
    }

    private static void slownessOfEach() {
        sentence("plus the slowness of the wordline (0 to 5; 0 at first)");
        for (int wordline = 0; wordline < 8; wordline++) {
            PagePairs x = new PagePairs();
            x.set(2, 0);
            x.slow(wordline, 5);
            for (int block = 0; block < 2; block++) {
                for (int position = 0; position < 16; position++) {
                    int slowness = WORDLINES[position] == wordline ? 5 : 0;
                    due("position " + position, ticksOf(x), (LATE[position] == 1 ? 5 : 2) + slowness);
                }
                x.turn();
            }
        }
        PagePairs none = new PagePairs();
        none.slow(0, 1);
        none.slow(0, 0);
        due("slowness 0", ticksOf(none), 2);
    }

    private static void wear() {
        sentence("plus how often the block was erased divided by setting 3; divisions are rounded down");
        int[][] cases = {{0, 3, 0}, {1, 3, 0}, {2, 3, 0}, {3, 3, 1}, {5, 3, 1}, {6, 3, 2}, {1, 1, 1}, {7, 1, 7},
            {98, 99, 0}, {99, 99, 1}, {197, 99, 1}, {198, 99, 2}, {1, 2, 0}};
        for (int[] told : cases) {
            PagePairs x = new PagePairs();
            x.set(3, told[1]);
            for (int times = 0; times < told[0]; times++) {
                x.erase(1);
            }
            due("count(13)", x.count(13), told[0]);
            due("the other block is not worn", ticksOf(x), 2);
            x.turn();
            due("early page", ticksOf(x), 2 + told[2]);
            due("early page", ticksOf(x), 2 + told[2]);
            due("late page, with its backup in 2 ticks", ticksOf(x), 7 + told[2]);
        }
    }

    // ---- backups

    private static void backups() {
        sentence("For a late page, if setting 2 is 1 and the early page of its wordline is written");
        PagePairs early = Checks.written(1);
        early.write(5, 5, 0);
        early.tick(1);
        due("none for an early page", early.count(6), 1);
        PagePairs unset = Checks.written(2);
        unset.set(2, 0);
        unset.write(2, 2, 0);
        unset.tick(1);
        due("setting 2 is 0", unset.backupOf(0, 0, 0), Checks.NONE);
        PagePairs set = new PagePairs();
        set.set(2, 0);
        Checks.fill(set, 2);
        set.set(2, 1);
        set.write(2, 2, 0);
        set.tick(1);
        due("setting 2 is 1 again", set.backupOf(0, 0, 0), 0);
        PagePairs torn = new PagePairs();
        Checks.tear(torn, 0, 1);
        torn.on();
        Checks.fill(torn, 1);
        torn.write(2, 2, 0);
        torn.tick(1);
        due("the early page is torn", torn.backupOf(0, 0, 0), Checks.NONE);
        due("so the writing takes 5 ticks", torn.count(6), 4);
        torn.write(3, 3, 0);
        torn.write(4, 4, 0);
        torn.tick(7);
        due("the next wordline has one", torn.backupOf(0, 1, 0), 0);
        sentence("It is complete behind its 2 ticks");
        PagePairs x = Checks.written(2);
        x.write(2, 2, 0);
        int[] complete = {0, 1, 1, 1, 1, 1, Checks.NONE};
        int[] made = {0, 1, 1, 1, 1, 1, 1};
        for (int tick = 0; tick < 7; tick++) {
            x.tick(1);
            due("behind " + (tick + 1), x.backupOf(0, 0, 0), complete[tick]);
            due("completed behind " + (tick + 1), x.count(15), made[tick]);
        }
        PagePairs atOnce = Checks.written(2);
        atOnce.write(2, 2, 0);
        atOnce.tick(200);
        due("in one call", atOnce.count(15), 1);
    }

    private static void backupOfEach() {
        sentence("A backup belongs to the wordline of its block; it has the key, value and stamp of the early page");
        for (int block = 0; block < 2; block++) {
            for (int wordline = 0; wordline < 8; wordline++) {
                int late = wordline == 7 ? 15 : 2 * wordline + 2;
                int early = wordline == 0 ? 0 : 2 * wordline - 1;
                PagePairs x = new PagePairs();
                if (block == 1) {
                    x.turn();
                }
                Checks.fill(x, late);
                x.write(11, 999, 0);
                x.tick(2);
                for (int other = 0; other < 8; other++) {
                    due("other block", x.backupOf(1 - block, other, 0), Checks.NONE);
                    due("complete", x.backupOf(block, other, 0), other == wordline ? 1 : Checks.NONE);
                }
                due("key", x.backupOf(block, wordline, 1), early % 12);
                due("value", x.backupOf(block, wordline, 2), 100 + early);
                due("stamp", x.backupOf(block, wordline, 3), early + 1);
                x.tick(1);
                x.cut();
                due("early page", x.pageOf(block, early, 0), 3);
                boolean newer = early + 12 < late;
                due("16 plus the wordline", x.placeOf(early % 12, 1), newer ? early + 12 : 16 + wordline);
            }
        }
    }

    private static void goneBackups() {
        sentence("is gone when the late page of the wordline is written");
        PagePairs x = Checks.inBackup();
        x.on();
        x.tick(50);
        due("it stays when another page is written", x.backupOf(0, 0, 0), 1);
        due("its page is torn for ever", x.pageOf(0, 2, 0), 3);
        sentence("or its block is erased");
        PagePairs both = Checks.inBackups();
        both.on();
        both.turn();
        both.tick(4);
        due("erase(0)", both.erase(0), 1);
        due("wordline 0", both.backupOf(0, 0, 0), Checks.NONE);
        due("wordline 1", both.backupOf(0, 1, 0), Checks.NONE);
        PagePairs other = Checks.inBackup();
        other.on();
        other.turn();
        due("the other block cannot be erased", other.erase(1), Checks.IMPOSSIBLE);
        due("it stays", other.backupOf(0, 0, 0), 1);
        sentence("a backup that is not complete is gone");
        PagePairs cut = Checks.written(2);
        Checks.tear(cut, 2, 1);
        due("behind one tick", cut.backupOf(0, 0, 0), Checks.NONE);
        due("it was not made", cut.count(15), 0);
        PagePairs complete = Checks.written(2);
        Checks.tear(complete, 2, 2);
        due("behind two ticks", complete.backupOf(0, 0, 0), 1);
        due("it was made", complete.count(15), 1);
    }

    // ---- where a key is

    private static void places() {
        sentence("The place of a key is where its greatest stamp is");
        PagePairs x = new PagePairs();
        x.write(3, 31, 0);
        x.write(3, 32, 0);
        x.write(4, 40, 0);
        x.tick(11);
        due("of two pages the later one", x.read(3), 32);
        due("its position", x.placeOf(3, 1), 1);
        x.turn();
        x.write(3, 33, 0);
        x.tick(1);
        due("not what is being written", x.read(3), 32);
        x.tick(1);
        due("in block 1", x.placeOf(3, 0), 1);
        x.erase(0);
        due("key 4 is in block 0", x.count(12), 0);
        x.clean(0);
        x.tick(2);
        x.erase(0);
        x.turn();
        due("block 0 is active; block 1 is not blank", x.count(2), 0);
        x.write(3, 34, 0);
        x.tick(2);
        due("a greater stamp in block 0", x.placeOf(3, 0), 0);
        due("its stamp", x.placeOf(3, 2), 6);
        sentence("among written pages and complete backups (of a page and its backup it is the page)");
        PagePairs page = Checks.written(2);
        Checks.tear(page, 2, 2);
        due("a backup is there", page.backupOf(0, 0, 3), 1);
        due("the page is the place", page.placeOf(0, 1), 0);
        due("of the same stamp", page.placeOf(0, 2), 1);
        PagePairs backup = Checks.inBackup();
        due("the page is torn", backup.placeOf(0, 1), 16);
        due("the backup's stamp", backup.placeOf(0, 2), 1);
        due("its value", backup.read(0), 100);
        PagePairs newer = newerThanBackup();
        due("a page with a greater stamp", newer.placeOf(0, 1), 1);
        sentence("It has no place if there is none");
        due("no page of it", backup.read(9), Checks.NONE);
        PagePairs torn = new PagePairs();
        Checks.tear(torn, 9, 1);
        due("a torn page alone", torn.read(9), Checks.NONE);
        due("count(11)", torn.count(11), 0);
    }

    /** Key 0 is in E0, E1 and, as a complete backup of E0, at the wordline 0; E0 is torn. */
    private static PagePairs newerThanBackup() {
        PagePairs x = new PagePairs();
        x.write(0, 10, 0);
        x.write(0, 11, 0);
        x.tick(4);
        Checks.tear(x, 5, 3);
        return x;
    }

    // ---- cuts

    private static void cuts() {
        sentence("When the power is cut, the page that is being written is torn");
        PagePairs none = Checks.written(3);
        due("nothing is being written", none.cut(), 0);
        due("so no page is torn", none.count(10), 0);
        due("all keys stay", none.count(11), 3);
        PagePairs waits = Checks.written(3);
        waits.write(5, 5, 0);
        waits.cut();
        due("one that waits has no page", waits.pageOf(0, 3, 0), 0);
        PagePairs early = Checks.written(1);
        Checks.tear(early, 5, 1);
        due("an early page", early.pageOf(0, 1, 0), 3);
        due("alone", early.count(10), 1);
        due("the one ahead of it stays", early.pageOf(0, 0, 0), 2);
        PagePairs done = Checks.written(1);
        done.write(5, 5, 0);
        done.tick(2);
        done.cut();
        due("its last tick has gone by", done.pageOf(0, 1, 0), 2);
        due("none is torn", done.count(10), 0);
        due("none is gone", done.count(8), 0);
    }

    private static void tornEarlyPages() {
        sentence("if it is a late one, and at least one tick of the writing itself has gone by, the early page, too");
        for (int backups = 0; backups < 2; backups++) {
            for (int ticks = 1; ticks <= 4; ticks++) {
                PagePairs x = Checks.written(2);
                x.set(2, backups);
                Checks.tear(x, 5, ticks);
                boolean torn = backups == 0 || ticks > 2;
                due("the late page behind " + ticks, x.pageOf(0, 2, 0), 3);
                due("the early page behind " + ticks, x.pageOf(0, 0, 0), torn ? 3 : 2);
                due("another one behind " + ticks, x.pageOf(0, 1, 0), 2);
                due("count(10) behind " + ticks, x.count(10), torn ? 2 : 1);
            }
        }
        PagePairs last = Checks.written(15);
        Checks.tear(last, 5, 3);
        due("the early page of the last wordline", last.pageOf(0, 13, 0), 3);
        due("the late page ahead of it", last.pageOf(0, 14, 0), 2);
        PagePairs slow = Checks.written(2);
        slow.slow(0, 5);
        slow.set(1, 20);
        Checks.tear(slow, 5, 2);
        due("a slow one, behind its backup", slow.pageOf(0, 0, 0), 2);
        PagePairs told = Checks.written(2);
        told.write(5, 5, 0);
        told.tick(2);
        told.set(1, 20);
        told.slow(0, 5);
        told.cut();
        due("a writing that has begun goes on as told", told.pageOf(0, 0, 0), 2);
    }

    private static void goneByCuts() {
        sentence("All requests that wait are gone, also the one that is being written");
        PagePairs x = Checks.busy();
        x.cut();
        due("8 and one", x.count(8), 9);
        due("none waits", x.count(4), 0);
        due("waits(0, 0)", x.waits(0, 0), Checks.NONE);
        due("nothing is being written", x.count(5), 0);
        due("count(6)", x.count(6), Checks.NONE);
        x.undo();
        due("undone", x.count(8), 0);
        PagePairs none = new PagePairs();
        none.cut();
        due("none", none.count(8), 0);
        none.on();
        none.write(1, 1, 0);
        none.cut();
        due("one that waits", none.count(8), 1);
        none.on();
        due("it does not come back", none.count(4), 0);
        PagePairs restored = Checks.inBackups();
        int gone = restored.count(8);
        restored.on();
        restored.cut();
        due("those that are restored, too", restored.count(8), gone + 2);
        PagePairs cleaned = Checks.written(3);
        cleaned.turn();
        cleaned.clean(0);
        cleaned.cut();
        due("those that are cleaned, too", cleaned.count(8), 3);
    }

    private static void powerOff() {
        sentence("While the power is off, no ticks go by");
        PagePairs x = Checks.written(2);
        x.cut();
        int time = x.count(0);
        due("tick(1)", x.tick(1), Checks.IMPOSSIBLE);
        due("the time", x.count(0), time);
        x.on();
        x.tick(1);
        due("on again", x.count(0), time + 1);
    }

    private static void restored() {
        sentence("for each backup that is the place of its key, a request with the urgency 0 comes");
        PagePairs none = Checks.written(3);
        none.cut();
        due("no backups", none.on(), 0);
        PagePairs page = Checks.written(2);
        Checks.tear(page, 2, 2);
        due("a backup whose page is the place", page.on(), 0);
        PagePairs newer = newerThanBackup();
        due("a backup of an older copy", newer.backupOf(0, 0, 0), 1);
        due("is not the place", newer.on(), 0);
        PagePairs one = Checks.inBackup();
        due("one", one.on(), 1);
        due("its key", one.waits(0, 0), 0);
        due("its value", one.waits(0, 1), 100);
        due("its urgency", one.waits(0, 2), 0);
        one.tick(1);
        one.cut();
        due("again, when its page was torn", one.on(), 1);
        sentence("of the block 0 by wordlines");
        PagePairs x = new PagePairs();
        x.write(7, 70, 0);
        x.write(3, 30, 0);
        x.tick(4);
        Checks.tear(x, 2, 3);
        x.on();
        x.tick(1);
        x.cut();
        x.on();
        x.tick(3);
        x.cut();
        due("two", x.on(), 2);
        due("wordline 0", x.waits(0, 0), 7);
        due("wordline 1", x.waits(1, 0), 3);
    }

    private static void restoredOfBoth() {
        sentence("(of the block 0 by wordlines, then of the block 1)");
        PagePairs x = Checks.inBackups();
        x.on();
        x.turn();
        x.tick(2);
        due("key 0 is restored in block 1", x.placeOf(0, 0), 1);
        x.tick(1);
        x.cut();
        due("key 1 is torn there", x.pageOf(1, 1, 0), 3);
        due("it waits again", x.on(), 1);
        x.tick(3);
        x.cut();
        due("key 0 is in a backup of block 1", x.placeOf(0, 0), 1);
        due("at the wordline 0", x.placeOf(0, 1), 16);
        due("key 1 is in a backup of block 0", x.placeOf(1, 0), 0);
        due("at the wordline 1", x.placeOf(1, 1), 17);
        due("both", x.on(), 2);
        due("that of block 0", x.waits(0, 0), 1);
        due("that of block 1", x.waits(1, 0), 0);
        x.tick(7);
        due("both are restored", x.placeOf(0, 1), 4);
        due("key 1", x.placeOf(1, 1), 3);
        due("their values", x.read(0), 100);
        due("their values", x.read(1), 101);
        due("block 0 can be erased", x.erase(0), 1);
        due("the backup in block 1 stays", x.backupOf(1, 0, 0), 1);
    }

    private static void lostKeys() {
        sentence("A key is lost by a cut if it had a place ahead of it, and has none behind it");
        PagePairs none = Checks.written(2);
        none.set(2, 0);
        none.write(2, 1, 0);
        none.tick(1);
        due("wouldLose(0)", none.wouldLose(0), 1);
        due("cut()", none.cut(), 1);
        due("no place", none.read(0), Checks.NONE);
        due("count(9)", none.count(9), 1);
        sentence("or one with another stamp");
        PagePairs older = new PagePairs();
        older.set(2, 0);
        older.write(0, 10, 0);
        older.write(0, 11, 0);
        older.write(1, 12, 0);
        older.write(1, 13, 0);
        older.tick(11);
        older.write(2, 20, 0);
        older.tick(1);
        due("wouldLose(0)", older.wouldLose(0), 1);
        due("cut()", older.cut(), 1);
        due("the older copy comes back", older.read(0), 10);
        due("its stamp", older.placeOf(0, 2), 1);
        sentence("had a place ahead of it, and one with the same stamp behind it");
        PagePairs backup = Checks.written(2);
        backup.write(2, 1, 0);
        backup.tick(3);
        due("page, then backup", backup.cut(), 0);
        due("count(9)", backup.count(9), 0);
        sentence("if it had a place ahead of it");
        PagePairs never = new PagePairs();
        never.write(5, 1, 0);
        never.tick(1);
        due("it had none", never.cut(), 0);
        due("count(9)", never.count(9), 0);
    }

    // ---- cleaning

    private static void cleaning() {
        sentence("for each position from 0 on that is the place of its key");
        PagePairs x = Checks.written(3);
        x.write(0, 900, 0);
        x.tick(2);
        x.turn();
        due("three", x.clean(0), 3);
        due("the position 1", x.waits(0, 0), 1);
        due("the position 2", x.waits(1, 0), 2);
        due("the position 3", x.waits(2, 0), 0);
        due("its value", x.waits(2, 1), 900);
        due("the urgency", x.waits(0, 2), 3);
        sentence("and then for each wordline whose backup is the place of its key");
        PagePairs backups = Checks.inBackups();
        backups.on();
        backups.tick(2);
        backups.write(6, 60, 0);
        backups.cut();
        due("key 1 is in a backup", backups.placeOf(1, 1), 17);
        backups.on();
        backups.turn();
        due("key 0 and key 1", backups.clean(0), 2);
        due("the page first", backups.waits(1, 0), 0);
        due("then the backup", backups.waits(2, 0), 1);
        PagePairs none = new PagePairs();
        sentence("To clean a block that is not the active one");
        due("a blank one", none.clean(1), 0);
        due("the active one", none.clean(0), Checks.IMPOSSIBLE);
        PagePairs moved = Checks.written(8);
        moved.turn();
        due("all", moved.clean(0), 8);
        moved.tick(200);
        due("they are places no more", moved.clean(0), 0);
    }

    private static void roomForCleaning() {
        sentence("if there is no room for all of them, nothing is done");
        for (int places = 0; places <= 9; places++) {
            for (int waiting = 0; waiting <= 8; waiting++) {
                PagePairs x = Checks.written(places);
                x.turn();
                for (int i = 0; i < waiting; i++) {
                    x.write(11, i, 0);
                }
                boolean room = places + waiting <= 8;
                due(places + " with " + waiting, x.clean(0), room ? places : Checks.LIMIT);
                due(places + " with " + waiting, x.count(4), room ? places + waiting : waiting);
            }
        }
    }

    private static void erasing() {
        sentence("A block can be erased if it is not active");
        PagePairs x = new PagePairs();
        due("the active one, though it is blank", x.erase(0), Checks.IMPOSSIBLE);
        due("the other", x.erase(1), 1);
        sentence("and is not the place of any key");
        PagePairs last = Checks.written(16);
        last.turn();
        for (int key = 0; key < 12; key++) {
            due("key " + key + " is in it", last.erase(0), Checks.IMPOSSIBLE);
            last.write(key, key, 0);
            last.tick(7);
        }
        due("none is in it", last.erase(0), 1);
        PagePairs first = Checks.written(1);
        first.turn();
        due("the position 0", first.erase(0), Checks.IMPOSSIBLE);
        PagePairs end = Checks.written(15);
        end.write(11, 1, 0);
        end.tick(7);
        end.turn();
        for (int key = 0; key < 11; key++) {
            end.write(key, key, 0);
            end.tick(7);
        }
        due("the position 15", end.erase(0), Checks.IMPOSSIBLE);
        PagePairs backup = Checks.inBackups();
        backup.on();
        backup.tick(2);
        backup.turn();
        backup.write(0, 5, 1);
        backup.tick(2);
        due("key 1", backup.placeOf(1, 0), 1);
        backup.tick(2);
        due("neither", backup.erase(0), 1);
        PagePairs only = Checks.inBackup();
        only.on();
        only.turn();
        only.write(1, 1, 1);
        only.write(0, 1, 1);
        due("a page and a backup", only.erase(0), Checks.IMPOSSIBLE);
        only.tick(1);
        due("a page and a backup", only.erase(0), Checks.IMPOSSIBLE);
        only.tick(3);
        due("neither", only.erase(0), 1);
        blankBehindErasing();
    }

    private static void blankBehindErasing() {
        sentence("all its pages are blank then, and its backups gone");
        PagePairs x = Checks.written(15);
        Checks.tear(x, 5, 3);
        x.on();
        x.turn();
        x.clean(0);
        x.tick(1);
        for (int key = 0; key < 12; key++) {
            x.write(key, key, 0);
            x.tick(7);
        }
        due("a torn page", x.pageOf(0, 15, 0), 3);
        due("a backup", x.backupOf(0, 7, 0), 1);
        due("erase(0)", x.erase(0), 1);
        for (int position = 0; position < 16; position++) {
            due("page " + position, x.pageOf(0, position, 0), 0);
            due("key of page " + position, x.pageOf(0, position, 1), Checks.NONE);
        }
        for (int wordline = 0; wordline < 8; wordline++) {
            due("backup " + wordline, x.backupOf(0, wordline, 0), Checks.NONE);
        }
        due("the other block stays", x.pageOf(1, 0, 0), 2);
        due("all keys stay", x.count(11), 12);
    }

    // ---- settings

    private static void settings() {
        sentence("The settings are (in parentheses: range; first value)");
        int[] least = {1, 1, 0, 1};
        int[] most = {9, 20, 1, 99};
        int[] first = {2, 5, 1, 3};
        for (int what = 0; what < 4; what++) {
            due("first value", new PagePairs().count(20 + what), first[what]);
            for (int value = least[what] - 2; value <= most[what] + 2; value++) {
                PagePairs x = new PagePairs();
                boolean inRange = value >= least[what] && value <= most[what];
                due("set(" + what + ", " + value + ")", x.set(what, value), inRange ? first[what] : Checks.INVALID);
                due("then " + what, x.count(20 + what), inRange ? value : first[what]);
                for (int other = 0; other < 4; other++) {
                    due("setting " + other, x.count(20 + other), other == what && inRange ? value : first[other]);
                }
            }
        }
    }

    // ---- texts

    private static void texts() {
        sentence("There is a text of at most 60 characters, initially empty");
        PagePairs x = new PagePairs();
        due("count(17)", x.count(17), 0);
        due("fault(0)", x.fault(0), Checks.NONE);
        for (int length = 1; length <= 60; length++) {
            due("type", x.type('x'), length);
        }
        due("type", x.type('x'), Checks.LIMIT);
        due("count(17)", x.count(17), 60);
        sentence("\"w\" a key \",\" a value (urgency 2), \"u\" a key \",\" a value (urgency 1)");
        PagePairs asked = Checks.typed("w0,0;u11,999;w11,999;u0,0;");
        due("play()", asked.play(), 4);
        int[][] waits = {{11, 999, 1}, {0, 0, 1}, {0, 0, 2}, {11, 999, 2}};
        for (int index = 0; index < 4; index++) {
            for (int what = 0; what < 3; what++) {
                due("waits(" + index + ", " + what + ")", asked.waits(index, what), waits[index][what]);
            }
        }
        sentence("\"t\" ticks");
        PagePairs ticks = Checks.typed("t1;t200;");
        due("play()", ticks.play(), 2);
        due("the time", ticks.count(0), 201);
        sentence("\"x\" (the power is cut), \"o\" (the power is on), \"s\" (the other block is active)");
        PagePairs power = Checks.typed("x;");
        due("play()", power.play(), 1);
        due("off", power.count(1), 0);
        Checks.typeAll(power, "o;s;");
        due("play()", power.play(), 2);
        due("on", power.count(1), 1);
        due("the other block", power.count(2), 1);
        sentence("\"c\" a block (cleaned), or \"e\" a block (erased)");
        PagePairs block = Checks.written(2);
        Checks.typeAll(block, "s;c0;");
        due("play()", block.play(), 2);
        due("two wait", block.count(4), 2);
        Checks.typeAll(block, "t4;e0;s;c1;");
        due("play()", block.play(), 4);
        due("erased", block.count(12), 1);
        due("cleaned", block.waits(1, 2), 3);
        PagePairs other = Checks.typed("e1;");
        due("play()", other.play(), 1);
        due("erased", other.count(13), 1);
    }

    private static void formed(String text, int commands) {
        PagePairs x = Checks.typed(text);
        due("fault(0) of " + text, x.fault(0), Checks.NONE);
        due("fault(1) of " + text, x.fault(1), Checks.NONE);
        due("fault(2) of " + text, x.fault(2), Checks.NONE);
        due("play() of " + text, x.play(), commands);
    }

    private static void faulty(String text, int position, int reason, int cause) {
        PagePairs x = Checks.typed(text);
        due("fault(0) of " + text, x.fault(0), position);
        due("fault(1) of " + text, x.fault(1), reason);
        due("fault(2) of " + text, x.fault(2), cause);
        due("play() of " + text, x.play(), Checks.IMPOSSIBLE);
        due("states behind " + text, x.count(16), 0);
    }

    private static void numbers() {
        sentence("numbers of one to three digits, 0 ahead allowed");
        formed("t1;t01;t001;t20;t020;t200;", 6);
        formed("w0,0;w00,00;w000,000;", 3);
        formed("w9,9;w09,09;w011,099;u11,999;", 4);
        formed("c1;c01;c001;e1;e01;e001;", 6);
        String[] malformed = {"t0001;", "t1000;", "t9999;", "t;", "t ;", "t 1;", "t1 ;", "t+1;", "t-1;", "t1.;", "ta;",
            "w0000,1;", "w1,0000;", "w1,9999;", "w,;", "w,1;", "w1,;", "w1;", "w1,1,;", "w1,1,1;", "w1;1;", "w 1,1;",
            "w1, 1;", "u0001,1;", "u1,0001;", "u1;", "u;", "c0001;", "c;", "e0001;", "e;", "c1,1;", "e1,1;", "t1,1;",
            "x0;", "x1;", "o1;", "s0;", "x,;", "t/;", "t:;", "w/,1;", "w:,1;", "w1,/;", "w1,:;"};
        sentence("its reason is 1 if it is not of this form, its \";\" included");
        for (String text : malformed) {
            faulty(text, 0, 1, Checks.NONE);
        }
        for (int sign = 32; sign <= 126; sign++) {
            if ("wutxosce".indexOf(sign) < 0) {
                faulty((char) sign + ";", 0, 1, Checks.NONE);
                faulty((char) sign + "1;", 0, 1, Checks.NONE);
                faulty((char) sign + "1,1;", 0, 1, Checks.NONE);
            }
        }
        for (String whole : new String[] {"w1,23;", "u1,23;", "t123;", "x;", "o;", "s;", "c1;", "e1;"}) {
            for (int length = 1; length < whole.length(); length++) {
                faulty(whole.substring(0, length), 0, 1, Checks.NONE);
                faulty(whole.substring(0, length) + " ", 0, 1, Checks.NONE);
            }
        }
    }

    private static void faults() {
        sentence("the position, from 0, of the first character of the first command that is not possible");
        formed("", 0);
        faulty(";", 0, 1, Checks.NONE);
        faulty("t1;;", 3, 1, Checks.NONE);
        faulty("t1;t0;q", 3, 2, Checks.INVALID);
        faulty("t1;q;t0;", 3, 1, Checks.NONE);
        formed("s;".repeat(30), 30);
        faulty("s;".repeat(29) + "o;", 58, 2, Checks.IMPOSSIBLE);
        faulty("s;".repeat(29) + "ss", 58, 1, Checks.NONE);
        faulty("e1;" + "s;".repeat(28) + "s", 59, 1, Checks.NONE);
        sentence("when those ahead of it are done");
        formed("x;o;x;o;", 4);
        faulty("x;o;x;x;", 6, 2, Checks.IMPOSSIBLE);
        faulty("o;", 0, 2, Checks.IMPOSSIBLE);
        faulty("w1,1;t1;s;", 8, 2, Checks.IMPOSSIBLE);
        formed("w1,1;t2;s;", 3);
        faulty("w1,1;t2;s;s;", 10, 2, Checks.IMPOSSIBLE);
        faulty("w1,1;t2;s;e0;", 10, 2, Checks.IMPOSSIBLE);
        formed("w1,1;t2;s;c0;t2;e0;s;", 7);
        sentence("its cause is then the error code that the call returns for it");
        faulty("t0;", 0, 2, Checks.INVALID);
        faulty("t201;", 0, 2, Checks.INVALID);
        faulty("t999;", 0, 2, Checks.INVALID);
        faulty("w12,0;", 0, 2, Checks.INVALID);
        faulty("u12,0;", 0, 2, Checks.INVALID);
        faulty("w999,999;", 0, 2, Checks.INVALID);
        faulty("c2;", 0, 2, Checks.INVALID);
        faulty("e2;", 0, 2, Checks.INVALID);
        faulty("c999;", 0, 2, Checks.INVALID);
        faulty("c0;", 0, 2, Checks.IMPOSSIBLE);
        faulty("e0;", 0, 2, Checks.IMPOSSIBLE);
        faulty("x;t201;", 2, 2, Checks.INVALID);
        faulty("x;t200;", 2, 2, Checks.IMPOSSIBLE);
        faulty("x;w1,1;", 2, 2, Checks.IMPOSSIBLE);
        faulty("x;u1,1;", 2, 2, Checks.IMPOSSIBLE);
        faulty("x;s;", 2, 2, Checks.IMPOSSIBLE);
        faulty("x;c1;", 2, 2, Checks.IMPOSSIBLE);
        faulty("x;e1;", 2, 2, Checks.IMPOSSIBLE);
        faulty("w1,1;".repeat(8) + "w1,1;", 40, 2, Checks.LIMIT);
        faulty("u1,1;".repeat(8) + "x;x;", 42, 2, Checks.IMPOSSIBLE);
        limitsInTexts();
    }

    private static void limitsInTexts() {
        sentence("its cause is then the error code that the call returns for it");
        PagePairs old = Checks.old(199);
        Checks.typeAll(old, "t1;t1;");
        due("the time 9001", old.fault(0), 3);
        due("its reason", old.fault(1), 2);
        due("its cause", old.fault(2), Checks.LIMIT);
        Checks.typeAll(old, "t1;");
        due("the time 9000", old.play(), 1);
        PagePairs nine = Checks.written(9);
        Checks.typeAll(nine, "s;c0;");
        due("no room", nine.fault(0), 2);
        due("its reason", nine.fault(1), 2);
        due("its cause", nine.fault(2), Checks.LIMIT);
        due("play()", nine.play(), Checks.IMPOSSIBLE);
    }

    // ---- changes and errors

    private static void changes() {
        sentence("The changes are the calls of write, tick, cut, on, turn, clean, erase, slow, set and play");
        PagePairs[] x = new PagePairs[10];
        for (int i = 0; i < x.length; i++) {
            x[i] = Checks.typed("t1;");
        }
        x[3].cut();
        int[] answers = {x[0].write(1, 1, 0), x[1].tick(1), x[2].cut(), x[3].on(), x[4].turn(), x[5].clean(1),
            x[6].erase(1), x[7].slow(0, 0), x[8].set(0, 2), x[9].play()};
        for (int i = 0; i < x.length; i++) {
            due("no error by " + i, answers[i] < 0 ? 1 : 0, 0);
            due("states behind " + i, x[i].count(16), i == 3 ? 2 : 1);
            due("undo behind " + i, x[i].undo(), i == 3 ? 1 : 0);
        }
        sentence("The changes: no other calls");
        PagePairs none = Checks.typed("t1;");
        none.read(0);
        none.placeOf(0, 0);
        none.pageOf(0, 0, 0);
        none.backupOf(0, 0, 0);
        none.waits(0, 0);
        none.count(0);
        none.wouldLose(9);
        none.doneIn();
        none.fault(0);
        none.clearText();
        due("undo()", none.undo(), Checks.IMPOSSIBLE);
        due("count(16)", none.count(16), 0);
    }

    private static void histories() {
        sentence("A history of at most 4 states is kept; if there are 5 states then, the oldest one is dropped");
        for (int many = 0; many <= 6; many++) {
            PagePairs x = new PagePairs();
            for (int i = 0; i < many; i++) {
                x.tick(10 + i);
                due("count(16)", x.count(16), Math.min(4, i + 1));
            }
            int time = x.count(0);
            for (int i = many - 1; i >= Math.max(0, many - 4); i--) {
                due("undo()", x.undo(), i - Math.max(0, many - 4));
                time -= 10 + i;
                due("the time", x.count(0), time);
            }
            due("no more", x.undo(), Checks.IMPOSSIBLE);
            due("the time", x.count(0), time);
            x.tick(3);
            due("then a change again", x.count(16), 1);
            due("undone", x.undo(), 0);
            due("the time", x.count(0), time);
        }
        sentence("each change records everything before it but the text");
        PagePairs text = Checks.typed("t5;");
        text.tick(1);
        Checks.typeAll(text, "t7;t8;");
        text.undo();
        due("the text stays", text.count(17), 6);
        due("its commands", text.play(), 2);
        due("the time", text.count(0), 15);
    }

    private static void whichError() {
        sentence("INVALID_ARGUMENT is returned rather than NOT_POSSIBLE");
        PagePairs off = Checks.off();
        due("write", off.write(12, 0, 0), Checks.INVALID);
        due("tick", off.tick(0), Checks.INVALID);
        due("clean", off.clean(2), Checks.INVALID);
        due("erase", off.erase(2), Checks.INVALID);
        due("wouldLose", off.wouldLose(201), Checks.INVALID);
        sentence("NOT_POSSIBLE rather than LIMIT_REACHED");
        PagePairs old = Checks.old(200);
        old.cut();
        due("tick", old.tick(1), Checks.IMPOSSIBLE);
        PagePairs nine = Checks.written(9);
        due("clean of the active block", nine.clean(0), Checks.IMPOSSIBLE);
        nine.turn();
        due("clean of the other", nine.clean(0), Checks.LIMIT);
        nine.cut();
        due("clean with the power off", nine.clean(0), Checks.IMPOSSIBLE);
        sentence("INVALID_ARGUMENT rather than LIMIT_REACHED");
        due("write", Checks.crowded().write(0, 1000, 0), Checks.INVALID);
        due("tick", Checks.old(200).tick(201), Checks.INVALID);
        due("type", Checks.crowded().type(31), Checks.INVALID);
        sentence("INVALID_ARGUMENT rather than NOT_FOUND");
        PagePairs x = new PagePairs();
        due("read", x.read(12), Checks.INVALID);
        due("placeOf", x.placeOf(0, 3), Checks.INVALID);
        due("pageOf", x.pageOf(0, 16, 1), Checks.INVALID);
        due("backupOf", x.backupOf(0, 8, 1), Checks.INVALID);
        due("waits", x.waits(0, 3), Checks.INVALID);
        due("fault", x.fault(3), Checks.INVALID);
    }
}
