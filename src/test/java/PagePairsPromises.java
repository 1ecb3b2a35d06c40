/** For each promise of the document: ordinary inputs, the edges it names, and wrong inputs. */
public final class PagePairsPromises {
    private static final int INVALID = PagePairs.INVALID_ARGUMENT;
    private static final int IMPOSSIBLE = PagePairs.NOT_POSSIBLE;
    private static final int LIMIT = PagePairs.LIMIT_REACHED;
    private static final int NONE = PagePairs.NOT_FOUND;

    private static int wrong = 0;
    private static int promise = 0;

    public static void main(String[] args) {
        promise1();
        promise2();
        promise3();
        promise3Backups();
        promise3PassedOver();
        promise3Durations();
        promise4();
        promise4Edges();
        promise5();
        promise6();
        promise7();
        promise8();
        promise9();
        promise10();
        promise11();
        promise12();
        promise13();
        promise14();
        promise15();
        promise16();
        promise17();
        promise18();
        promise19();
        promise20();
        promise21();
        promise22();
        promise22Forms();
        promise23();
        System.out.println(wrong == 0 ? "all promises hold" : wrong + " answers are not as due");
        if (wrong != 0) {
            System.exit(1);
        }
    }

    private static void due(String call, int got, int want) {
        if (got != want) {
            wrong++;
            System.out.println("promise " + promise + ": " + call + " answered " + got + ", due is " + want);
        }
    }

    /** Asks for many writings, not urgent, of the keys 0, 1, 2 and so on, and lets them be done. */
    private static PagePairs written(int many) {
        PagePairs x = new PagePairs();
        for (int key = 0; key < many; key++) {
            x.write(key % 12, 100 + key, 0);
            x.tick(7);
        }
        return x;
    }

    private static void typeAll(PagePairs x, String text) {
        x.clearText();
        for (int i = 0; i < text.length(); i++) {
            x.type(text.charAt(i));
        }
    }

    private static void faultIs(PagePairs x, String text, int position, int reason, int cause) {
        typeAll(x, text);
        due("fault(0) of " + text, x.fault(0), position);
        due("fault(1) of " + text, x.fault(1), reason);
        due("fault(2) of " + text, x.fault(2), cause);
        due("play() of " + text, x.play(), position == NONE ? commandsIn(text) : IMPOSSIBLE);
    }

    private static int commandsIn(String text) {
        int many = 0;
        for (int i = 0; i < text.length(); i++) {
            many += text.charAt(i) == ';' ? 1 : 0;
        }
        return many;
    }

    private static void promise1() {
        promise = 1;
        due("INVALID_ARGUMENT", INVALID, -1);
        due("NOT_POSSIBLE", IMPOSSIBLE, -2);
        due("LIMIT_REACHED", LIMIT, -3);
        due("NOT_FOUND", NONE, -4);
        PagePairs x = new PagePairs();
        int[] counts = {0, 1, 0, 0, 0, 0, NONE, 0, 0, 0, 0, 0, 0, 0, 0, 0, 0, 0, INVALID, INVALID, 2, 5, 1, 3};
        for (int what = 0; what < counts.length; what++) {
            due("count(" + what + ")", x.count(what), counts[what]);
        }
        for (int wordline = 0; wordline < 8; wordline++) {
            due("slowness of " + wordline, x.count(30 + wordline), 0);
            due("backup", x.backupOf(0, wordline, 0), NONE);
            due("backup", x.backupOf(1, wordline, 0), NONE);
        }
        for (int position = 0; position < 16; position++) {
            due("page", x.pageOf(0, position, 0), 0);
            due("page", x.pageOf(1, position, 0), 0);
        }
        for (int key = 0; key < 12; key++) {
            due("read", x.read(key), NONE);
        }
        due("waits(0, 0)", x.waits(0, 0), NONE);
        new PagePairs().write(1, 2, 0);
        due("another object's request", x.count(4), 0);
    }

    private static void promise2() {
        promise = 2;
        PagePairs x = new PagePairs();
        due("key -1", x.write(-1, 0, 0), INVALID);
        due("key 12", x.write(12, 0, 0), INVALID);
        due("value -1", x.write(0, -1, 0), INVALID);
        due("value 1000", x.write(0, 1000, 0), INVALID);
        due("urgent -1", x.write(0, 0, -1), INVALID);
        due("urgent 2", x.write(0, 0, 2), INVALID);
        due("key far out", x.write(Integer.MIN_VALUE, 0, 0), INVALID);
        due("value far out", x.write(0, Integer.MAX_VALUE, 0), INVALID);
        due("errors are no changes", x.count(16), 0);
        due("least", x.write(0, 0, 0), 1);
        due("greatest", x.write(11, 999, 1), 2);
        for (int many = 3; many <= 8; many++) {
            due("write", x.write(many, many, 0), many);
        }
        due("a ninth one", x.write(1, 1, 1), LIMIT);
        due("a ninth one, wrong", x.write(12, 1, 1), INVALID);
        due("still 8", x.count(4), 8);
        x.tick(1);
        due("the one being written does not wait", x.count(4), 7);
        due("room again", x.write(1, 1, 0), 8);
        due("no room", x.write(1, 1, 0), LIMIT);
        x.cut();
        due("power is off", x.write(1, 1, 0), IMPOSSIBLE);
        due("power is off, wrong", x.write(1, 1000, 0), INVALID);
    }

    private static void promise3() {
        promise = 3;
        PagePairs x = new PagePairs();
        due("tick(0)", x.tick(0), INVALID);
        due("tick(-1)", x.tick(-1), INVALID);
        due("tick(201)", x.tick(201), INVALID);
        due("tick(1) idle", x.tick(1), 0);
        due("time", x.count(0), 1);
        x.write(5, 50, 0);
        x.write(6, 60, 1);
        x.write(7, 70, 1);
        x.write(8, 80, 0);
        due("begins", x.tick(1), 0);
        due("the first urgent one is being written", x.pageOf(0, 0, 0), 1);
        due("then the next urgent one", x.waits(0, 0), 7);
        due("its last tick", x.tick(1), 1);
        due("it is written", x.pageOf(0, 0, 1), 6);
        due("7", x.tick(2), 1);
        due("5 as a late page, 8 as an early one", x.tick(9), 2);
        due("5 is at position 2", x.placeOf(5, 1), 2);
        due("8 is at position 3", x.placeOf(8, 1), 3);
        due("stamps by beginning", x.placeOf(8, 2), 4);
        due("time", x.count(0), 14);
        PagePairs full = written(16);
        due("all positions", full.count(3), 16);
        due("full, it waits", full.write(0, 1, 1), 1);
        due("full, no acknowledgement", full.tick(200), 0);
        due("full, it still waits", full.count(4), 1);
        PagePairs old = new PagePairs();
        for (int i = 0; i < 44; i++) {
            due("tick(200)", old.tick(200), 0);
        }
        due("up to 8950", old.tick(150), 0);
        due("9001", old.tick(51), LIMIT);
        due("9001 is no change", old.count(0), 8950);
        due("9000", old.tick(50), 0);
        due("above 9000", old.tick(1), LIMIT);
        due("above 9000, wrong", old.tick(0), INVALID);
        old.cut();
        due("power is off", old.tick(1), IMPOSSIBLE);
        due("power is off, wrong", old.tick(201), INVALID);
    }

    private static void promise3Backups() {
        promise = 3;
        PagePairs x = written(2);
        x.write(2, 102, 0);
        x.tick(1);
        due("a backup first", x.count(6), 6);
        due("not complete yet", x.backupOf(0, 0, 0), 0);
        x.tick(1);
        due("complete behind 2 ticks", x.backupOf(0, 0, 0), 1);
        due("made", x.count(15), 1);
        due("the page is the place", x.placeOf(0, 1), 0);
        due("4 ticks more", x.tick(4), 0);
        due("written", x.tick(1), 1);
        due("gone then", x.backupOf(0, 0, 0), NONE);
        PagePairs without = written(2);
        without.set(2, 0);
        without.write(2, 102, 0);
        without.tick(1);
        due("no backup", without.backupOf(0, 0, 0), NONE);
        due("5 ticks in all", without.count(6), 4);
        PagePairs begun = written(2);
        begun.write(2, 102, 0);
        begun.tick(1);
        begun.set(2, 0);
        begun.tick(1);
        due("a backup that has begun goes on", begun.backupOf(0, 0, 0), 1);
        PagePairs torn = new PagePairs();
        torn.write(0, 1, 0);
        torn.tick(1);
        torn.cut();
        torn.on();
        torn.write(1, 2, 0);
        torn.tick(2);
        torn.write(2, 3, 0);
        torn.tick(1);
        due("a torn early page has no backup", torn.backupOf(0, 0, 0), NONE);
        due("so 5 ticks in all", torn.count(6), 4);
    }

    private static void promise3PassedOver() {
        promise = 3;
        PagePairs x = written(3);
        x.turn();
        due("three are cleaned", x.clean(0), 3);
        x.write(0, 900, 0);
        x.write(2, 902, 0);
        due("those that were asked for come first", x.waits(0, 1), 900);
        due("cleaned ones last", x.waits(2, 2), 3);
        due("asked for", x.tick(4), 2);
        due("only key 1 is written then", x.tick(100), 0);
        due("three positions", x.count(3), 3);
        due("key 1", x.pageOf(1, 2, 1), 1);
        due("nothing waits", x.count(4), 0);
        PagePairs twice = written(1);
        twice.turn();
        twice.clean(0);
        twice.clean(0);
        due("twice", twice.count(4), 2);
        twice.tick(2);
        due("the second one still waits", twice.count(4), 1);
        twice.tick(1);
        due("it is passed over in a tick", twice.count(4), 0);
        due("one position", twice.count(3), 1);
        twice.cut();
        due("it was not gone by a cut", twice.count(8), 0);
        PagePairs many = written(1);
        many.turn();
        many.write(0, 200, 0);
        many.tick(1);
        for (int times = 1; times <= 8; times++) {
            due("cleaned again", many.clean(0), 1);
        }
        due("no room", many.clean(0), LIMIT);
        many.tick(1);
        due("it was being written", many.count(4), 8);
        due("they are done in one tick", many.doneIn(), 1);
        many.tick(1);
        due("all passed over in one tick", many.count(4), 0);
        due("no position for them", many.count(3), 1);
        PagePairs first = written(1);
        first.turn();
        first.clean(0);
        first.clean(0);
        first.tick(2);
        first.write(9, 9, 0);
        first.write(0, 1, 0);
        first.tick(2);
        due("key 9, asked for", first.read(9), 9);
        due("the urgencies", first.waits(1, 2), 3);
    }

    private static void promise3Durations() {
        promise = 3;
        PagePairs x = new PagePairs();
        x.set(0, 9);
        x.set(1, 20);
        x.slow(0, 5);
        x.slow(1, 3);
        x.write(0, 1, 0);
        x.write(1, 1, 0);
        x.write(2, 1, 0);
        due("9 and 5 ticks, not yet", x.tick(13), 0);
        due("9 and 5 ticks", x.tick(1), 1);
        due("9 and 3 ticks, not yet", x.tick(11), 0);
        due("9 and 3 ticks", x.tick(1), 1);
        due("20, 5 and 2 ticks, not yet", x.tick(26), 0);
        due("20, 5 and 2 ticks", x.tick(1), 1);
        PagePairs worn = new PagePairs();
        worn.set(3, 2);
        for (int times = 1; times <= 5; times++) {
            due("erase(1)", worn.erase(1), times);
        }
        worn.turn();
        worn.write(0, 1, 0);
        worn.tick(1);
        due("2 ticks, and 5 / 2 more", worn.count(6), 3);
        worn.set(3, 1);
        worn.slow(0, 5);
        worn.set(0, 9);
        due("a writing that has begun goes on as told", worn.count(6), 3);
        due("as told", worn.tick(3), 1);
        worn.write(0, 2, 0);
        worn.tick(1);
        due("then 9 ticks, and 5 / 1 more", worn.count(6), 13);
        PagePairs quick = new PagePairs();
        quick.set(0, 1);
        quick.write(0, 1, 0);
        quick.write(1, 1, 0);
        due("one tick each", quick.tick(2), 2);
    }

    private static void promise4() {
        promise = 4;
        PagePairs x = new PagePairs();
        due("nothing is lost", x.cut(), 0);
        due("off already", x.cut(), IMPOSSIBLE);
        due("power", x.count(1), 0);
        due("cuts", x.count(14), 1);
        PagePairs lost = written(2);
        lost.set(2, 0);
        lost.write(2, 1, 0);
        lost.write(3, 1, 0);
        lost.tick(1);
        due("the early page of the wordline is lost", lost.cut(), 1);
        due("requests gone", lost.count(8), 2);
        due("keys lost", lost.count(9), 1);
        due("late page", lost.pageOf(0, 2, 0), 3);
        due("early page", lost.pageOf(0, 0, 0), 3);
        due("other early page", lost.pageOf(0, 1, 0), 2);
        due("torn", lost.count(10), 2);
        due("nothing waits", lost.count(4), 0);
        due("nothing is being written", lost.count(5), 0);
        due("no place", lost.read(0), NONE);
        PagePairs early = written(1);
        early.write(0, 7, 0);
        early.tick(1);
        due("an early page alone", early.cut(), 0);
        due("torn", early.count(10), 1);
        due("the older copy stays", early.read(0), 100);
        due("the next position is behind it", early.count(3), 2);
    }

    private static void promise4Edges() {
        promise = 4;
        for (int ticks = 1; ticks <= 7; ticks++) {
            PagePairs x = written(2);
            x.write(2, 102, 0);
            x.tick(ticks);
            due("with backups nothing is lost", x.cut(), 0);
            due("torn behind " + ticks, x.count(10), ticks == 7 ? 0 : ticks > 2 ? 2 : 1);
            due("backup behind " + ticks, x.backupOf(0, 0, 0), ticks == 1 || ticks == 7 ? NONE : 1);
            due("place behind " + ticks, x.placeOf(0, 1), ticks > 2 && ticks < 7 ? 16 : 0);
            due("value behind " + ticks, x.read(0), 100);
        }
        PagePairs older = new PagePairs();
        older.set(2, 0);
        older.write(0, 10, 0);
        older.write(0, 11, 0);
        older.write(5, 50, 0);
        older.write(5, 51, 0);
        older.tick(11);
        older.write(5, 52, 0);
        older.tick(1);
        due("key 0 has another stamp then", older.cut(), 1);
        due("the older copy has come back", older.read(0), 10);
        due("key 5 has its place", older.read(5), 51);
        due("lost so far", older.count(9), 1);
        older.on();
        older.write(0, 12, 0);
        older.tick(1);
        due("again", older.cut(), 0);
        due("lost so far", older.count(9), 1);
    }

    /** The keys 0 and 1 have their places in backups of block 0; the power is off. */
    private static PagePairs twoInBackups() {
        PagePairs x = written(2);
        x.write(2, 1, 0);
        x.tick(3);
        x.cut();
        x.on();
        x.tick(1);
        x.cut();
        x.on();
        x.tick(3);
        x.cut();
        return x;
    }

    private static void promise5() {
        promise = 5;
        PagePairs x = new PagePairs();
        due("on already", x.on(), IMPOSSIBLE);
        x.write(1, 1, 0);
        x.cut();
        due("nothing waits", x.on(), 0);
        due("power", x.count(1), 1);
        due("on already", x.on(), IMPOSSIBLE);
        PagePairs two = twoInBackups();
        due("power is off", two.count(1), 0);
        due("two backups", two.on(), 2);
        due("by wordlines: key 0", two.waits(0, 0), 0);
        due("its value", two.waits(0, 1), 100);
        due("its urgency", two.waits(0, 2), 0);
        due("key 1", two.waits(1, 0), 1);
        two.write(0, 200, 1);
        due("not acknowledged", two.tick(2), 0);
        due("restored first", two.read(0), 100);
        due("at position 5", two.placeOf(0, 1), 5);
        due("the backup stays", two.backupOf(0, 0, 0), 1);
        two.cut();
        due("but is no place", two.on(), 1);
        due("key 1 alone", two.waits(0, 0), 1);
        PagePairs page = written(2);
        page.write(2, 1, 0);
        page.tick(2);
        page.cut();
        due("its page is the place", page.on(), 0);
        due("though the backup is complete", page.backupOf(0, 0, 0), 1);
        olderBackup();
    }

    /** A backup is the place again when the page that was restored from it is torn. */
    private static void olderBackup() {
        PagePairs x = written(2);
        x.write(2, 1, 0);
        x.tick(3);
        x.cut();
        x.on();
        x.tick(2);
        due("restored", x.placeOf(0, 1), 3);
        x.set(2, 0);
        x.write(5, 1, 0);
        x.write(6, 1, 0);
        x.write(7, 1, 0);
        x.tick(8);
        due("key 7 is being written over it", x.pageOf(0, 6, 0), 1);
        due("another stamp: it is lost", x.cut(), 1);
        due("the backup is the place", x.placeOf(0, 1), 16);
        due("restored once more", x.on(), 1);
        due("key 0", x.waits(0, 0), 0);
    }

    private static void promise6() {
        promise = 6;
        PagePairs x = new PagePairs();
        due("turn()", x.turn(), 1);
        due("active", x.count(2), 1);
        due("back", x.turn(), 0);
        x.write(3, 4, 0);
        due("with a request that waits", x.turn(), 1);
        x.tick(1);
        due("being written", x.turn(), IMPOSSIBLE);
        due("in block 1", x.pageOf(1, 0, 0), 1);
        x.tick(1);
        due("written", x.turn(), 0);
        due("its next position", x.count(3), 0);
        due("the other is not blank", x.turn(), IMPOSSIBLE);
        PagePairs torn = new PagePairs();
        torn.write(1, 1, 0);
        torn.tick(1);
        torn.cut();
        due("off", torn.turn(), IMPOSSIBLE);
        torn.on();
        due("on", torn.turn(), 1);
        due("a torn page is not blank", torn.turn(), IMPOSSIBLE);
        torn.erase(0);
        due("erased", torn.turn(), 0);
        due("its positions begin again", torn.count(3), 0);
        PagePairs off = new PagePairs();
        off.cut();
        due("off", off.turn(), IMPOSSIBLE);
        due("errors are no changes", off.count(16), 1);
    }

    private static void promise7() {
        promise = 7;
        PagePairs x = new PagePairs();
        due("clean(-1)", x.clean(-1), INVALID);
        due("clean(2)", x.clean(2), INVALID);
        due("clean(0), active", x.clean(0), IMPOSSIBLE);
        due("clean(1), blank", x.clean(1), 0);
        due("a change", x.count(16), 1);
        x.cut();
        due("off", x.clean(1), IMPOSSIBLE);
        due("off, wrong", x.clean(2), INVALID);
        PagePairs eight = written(8);
        eight.write(0, 555, 0);
        eight.tick(9);
        eight.turn();
        eight.write(9, 9, 0);
        due("no room for 8 with one that waits", eight.clean(0), LIMIT);
        due("nothing is done", eight.count(4), 1);
        due("no change", eight.count(16), 4);
        eight.tick(1);
        due("room for 8", eight.clean(0), 8);
        due("by positions: key 1", eight.waits(0, 0), 1);
        due("key 7", eight.waits(6, 0), 7);
        due("last the key 0", eight.waits(7, 0), 0);
        due("its value", eight.waits(7, 1), 555);
        due("urgency", eight.waits(7, 2), 3);
        due("not acknowledged", eight.tick(100), 1);
        due("moved", eight.placeOf(0, 0), 1);
        due("their value", eight.read(7), 107);
        due("nothing left in it", eight.clean(0), 0);
        PagePairs nine = written(9);
        nine.turn();
        due("no room for 9", nine.clean(0), LIMIT);
        PagePairs backups = written(2);
        backups.write(2, 1, 0);
        backups.tick(3);
        backups.cut();
        backups.on();
        backups.turn();
        due("a page and a backup", backups.clean(0), 2);
        due("the restored one", backups.waits(0, 2), 0);
        due("the page first", backups.waits(1, 0), 1);
        due("then the backup", backups.waits(2, 0), 0);
        backups.tick(100);
        due("the second one of key 0 is passed over", backups.count(3), 2);
        due("key 0", backups.placeOf(0, 0), 1);
    }

    private static void promise8() {
        promise = 8;
        PagePairs x = new PagePairs();
        due("erase(-1)", x.erase(-1), INVALID);
        due("erase(2)", x.erase(2), INVALID);
        due("active", x.erase(0), IMPOSSIBLE);
        due("blank", x.erase(1), 1);
        due("again", x.erase(1), 2);
        x.cut();
        due("off", x.erase(1), IMPOSSIBLE);
        due("off, wrong", x.erase(-1), INVALID);
        PagePairs key = written(3);
        key.turn();
        due("keys in it", key.erase(0), IMPOSSIBLE);
        key.write(0, 1, 0);
        key.write(1, 1, 0);
        key.tick(4);
        due("a key in it", key.erase(0), IMPOSSIBLE);
        key.write(2, 1, 0);
        key.tick(6);
        due("being written still", key.erase(0), IMPOSSIBLE);
        key.tick(1);
        due("none in it", key.erase(0), 1);
        due("blank", key.pageOf(0, 0, 0), 0);
        due("blank", key.pageOf(0, 2, 0), 0);
        due("erased", key.count(12), 1);
        due("the other", key.count(13), 0);
        due("keys stay", key.count(11), 3);
        PagePairs backup = twoInBackups();
        backup.on();
        backup.turn();
        due("backups are places", backup.erase(0), IMPOSSIBLE);
        backup.tick(2);
        due("a backup is a place", backup.erase(0), IMPOSSIBLE);
        backup.tick(2);
        due("both are restored", backup.erase(0), 1);
        due("backups are gone", backup.backupOf(0, 0, 0), NONE);
        due("backups are gone", backup.backupOf(0, 1, 0), NONE);
        due("torn pages are gone", backup.count(10), 0);
        due("restored", backup.read(1), 101);
    }

    private static void promise9() {
        promise = 9;
        PagePairs x = new PagePairs();
        due("wordline -1", x.slow(-1, 0), INVALID);
        due("wordline 8", x.slow(8, 0), INVALID);
        due("ticks -1", x.slow(0, -1), INVALID);
        due("ticks 6", x.slow(0, 6), INVALID);
        due("errors are no changes", x.count(16), 0);
        due("first", x.slow(7, 5), 0);
        due("then", x.slow(7, 1), 5);
        due("a change", x.count(16), 2);
        due("what it is", x.count(37), 1);
        due("least", x.slow(0, 0), 0);
        x.slow(0, 4);
        x.turn();
        x.write(0, 1, 0);
        x.tick(1);
        due("in block 1 too", x.count(6), 5);
        x.slow(0, 0);
        due("as told", x.count(6), 5);
        x.cut();
        due("off", x.slow(0, 3), 0);
    }

    private static void promise10() {
        promise = 10;
        int[] least = {1, 1, 0, 1};
        int[] most = {9, 20, 1, 99};
        int[] first = {2, 5, 1, 3};
        PagePairs x = new PagePairs();
        due("what -1", x.set(-1, 1), INVALID);
        due("what 4", x.set(4, 1), INVALID);
        for (int what = 0; what < 4; what++) {
            due("below " + what, x.set(what, least[what] - 1), INVALID);
            due("above " + what, x.set(what, most[what] + 1), INVALID);
            due("still the first value", x.count(20 + what), first[what]);
            due("least of " + what, x.set(what, least[what]), first[what]);
            due("most of " + what, x.set(what, most[what]), least[what]);
            due("what it is", x.count(20 + what), most[what]);
        }
        x.write(1, 1, 0);
        x.tick(1);
        x.set(0, 1);
        due("as told", x.count(6), 8);
        x.cut();
        due("off", x.set(0, 2), 1);
        due("changes", x.count(16), 4);
    }

    private static void promise11() {
        promise = 11;
        PagePairs x = written(2);
        due("read(-1)", x.read(-1), INVALID);
        due("read(12)", x.read(12), INVALID);
        due("read(11)", x.read(11), NONE);
        due("read(0)", x.read(0), 100);
        x.write(0, 0, 0);
        due("a request is no place", x.read(0), 100);
        x.tick(6);
        due("nor is what is being written", x.read(0), 100);
        x.tick(1);
        due("the greatest stamp", x.read(0), 0);
        PagePairs off = twoInBackups();
        due("a backup, with the power off", off.read(1), 101);
    }

    private static void promise12() {
        promise = 12;
        PagePairs x = written(3);
        due("key -1", x.placeOf(-1, 0), INVALID);
        due("key 12", x.placeOf(12, 0), INVALID);
        due("what -1", x.placeOf(0, -1), INVALID);
        due("what 3", x.placeOf(0, 3), INVALID);
        due("what 3, no place", x.placeOf(9, 3), INVALID);
        due("no place", x.placeOf(9, 0), NONE);
        due("block", x.placeOf(2, 0), 0);
        due("position", x.placeOf(2, 1), 2);
        due("stamp", x.placeOf(2, 2), 3);
        x.turn();
        x.write(2, 9, 0);
        x.tick(2);
        due("block", x.placeOf(2, 0), 1);
        due("position", x.placeOf(2, 1), 0);
        due("stamp", x.placeOf(2, 2), 4);
        PagePairs backups = twoInBackups();
        due("block of a backup", backups.placeOf(1, 0), 0);
        due("16 plus the wordline", backups.placeOf(1, 1), 17);
        due("the page's stamp", backups.placeOf(1, 2), 2);
    }

    private static void promise13() {
        promise = 13;
        PagePairs x = written(2);
        due("block -1", x.pageOf(-1, 0, 0), INVALID);
        due("block 2", x.pageOf(2, 0, 0), INVALID);
        due("position -1", x.pageOf(0, -1, 0), INVALID);
        due("position 16", x.pageOf(0, 16, 0), INVALID);
        due("what -1", x.pageOf(0, 0, -1), INVALID);
        due("what 6", x.pageOf(0, 0, 6), INVALID);
        int[] wordlines = {0, 1, 0, 2, 1, 3, 2, 4, 3, 5, 4, 6, 5, 7, 6, 7};
        int[] late = {0, 0, 1, 0, 1, 0, 1, 0, 1, 0, 1, 0, 1, 0, 1, 1};
        for (int position = 0; position < 16; position++) {
            due("wordline of " + position, x.pageOf(1, position, 4), wordlines[position]);
            due("late " + position, x.pageOf(1, position, 5), late[position]);
        }
        due("written", x.pageOf(0, 1, 0), 2);
        due("key", x.pageOf(0, 1, 1), 1);
        due("value", x.pageOf(0, 1, 2), 101);
        due("stamp", x.pageOf(0, 1, 3), 2);
        x.write(7, 70, 0);
        due("blank", x.pageOf(0, 2, 0), 0);
        x.tick(1);
        due("while its backup is made", x.pageOf(0, 2, 0), 1);
        x.tick(3);
        due("being written", x.pageOf(0, 2, 0), 1);
        for (int what = 1; what <= 3; what++) {
            due("being written", x.pageOf(0, 2, what), NONE);
            due("blank", x.pageOf(1, 2, what), NONE);
        }
        x.cut();
        due("torn", x.pageOf(0, 2, 0), 3);
        due("torn, too", x.pageOf(0, 0, 0), 3);
        for (int what = 1; what <= 3; what++) {
            due("torn", x.pageOf(0, 0, what), NONE);
        }
    }

    private static void promise14() {
        promise = 14;
        PagePairs x = written(2);
        due("block -1", x.backupOf(-1, 0, 0), INVALID);
        due("block 2", x.backupOf(2, 0, 0), INVALID);
        due("wordline -1", x.backupOf(0, -1, 0), INVALID);
        due("wordline 8", x.backupOf(0, 8, 0), INVALID);
        due("what -1", x.backupOf(0, 0, -1), INVALID);
        due("what 4", x.backupOf(0, 0, 4), INVALID);
        due("none", x.backupOf(0, 0, 0), NONE);
        due("none", x.backupOf(0, 0, 3), NONE);
        x.write(7, 70, 0);
        x.tick(1);
        for (int ticks = 1; ticks <= 6; ticks++) {
            due("complete", x.backupOf(0, 0, 0), ticks > 1 ? 1 : 0);
            due("key", x.backupOf(0, 0, 1), 0);
            due("value", x.backupOf(0, 0, 2), 100);
            due("stamp", x.backupOf(0, 0, 3), 1);
            due("other wordline", x.backupOf(0, 1, 0), NONE);
            due("other block", x.backupOf(1, 0, 0), NONE);
            x.tick(1);
        }
        due("the late page is written", x.backupOf(0, 0, 0), NONE);
        PagePairs last = written(15);
        last.write(7, 70, 0);
        last.tick(2);
        due("the last wordline's", last.backupOf(0, 7, 1), 1);
        due("its stamp", last.backupOf(0, 7, 3), 14);
    }

    private static void promise15() {
        promise = 15;
        PagePairs x = new PagePairs();
        x.write(1, 10, 0);
        x.write(2, 20, 1);
        x.write(3, 30, 0);
        x.write(4, 40, 1);
        due("index -1", x.waits(-1, 0), INVALID);
        due("what -1", x.waits(0, -1), INVALID);
        due("what 3", x.waits(0, 3), INVALID);
        due("what 3, not so many", x.waits(9, 3), INVALID);
        int[] keys = {2, 4, 1, 3};
        for (int index = 0; index < 4; index++) {
            due("key", x.waits(index, 0), keys[index]);
            due("value", x.waits(index, 1), 10 * keys[index]);
            due("urgency", x.waits(index, 2), index < 2 ? 1 : 2);
        }
        due("not so many", x.waits(4, 0), NONE);
        due("far out", x.waits(Integer.MAX_VALUE, 0), NONE);
        x.tick(1);
        due("the first one is being written", x.waits(0, 0), 4);
        due("not so many", x.waits(3, 0), NONE);
        x.write(5, 50, 1);
        due("behind those as urgent", x.waits(1, 0), 5);
        x.cut();
        due("gone", x.waits(0, 0), NONE);
    }

    private static void promise16() {
        promise = 16;
        PagePairs x = new PagePairs();
        int[] outside = {-1, 18, 19, 24, 29, 38, Integer.MIN_VALUE, Integer.MAX_VALUE};
        for (int what : outside) {
            due("count(" + what + ")", x.count(what), INVALID);
        }
        x.set(0, 3);
        x.set(1, 6);
        x.set(3, 7);
        x.slow(1, 2);
        due("settings", x.count(20), 3);
        due("settings", x.count(21), 6);
        due("settings", x.count(22), 1);
        due("settings", x.count(23), 7);
        due("slowness", x.count(31), 2);
        due("slowness", x.count(30), 0);
        x.write(0, 1, 0);
        x.write(1, 2, 0);
        x.write(2, 3, 0);
        x.tick(5);
        due("time", x.count(0), 5);
        due("next position", x.count(3), 2);
        due("requests", x.count(4), 1);
        due("being written", x.count(5), 1);
        due("3 and 2 ticks, 2 gone by", x.count(6), 3);
        due("acknowledged", x.count(7), 1);
        due("keys", x.count(11), 1);
        x.tick(4);
        due("6 and 2 ticks, one gone by", x.count(6), 7);
        due("backups", x.count(15), 0);
        x.tick(1);
        due("backups", x.count(15), 1);
        x.tick(1);
        x.write(3, 4, 0);
        x.cut();
        due("power", x.count(1), 0);
        due("gone", x.count(8), 2);
        due("lost", x.count(9), 0);
        due("torn", x.count(10), 2);
        due("keys", x.count(11), 2);
        due("cuts", x.count(14), 1);
        due("nothing is being written", x.count(6), NONE);
        due("states", x.count(16), 4);
        x.type(32);
        due("text", x.count(17), 1);
        x.on();
        x.turn();
        due("active", x.count(2), 1);
        due("next position", x.count(3), 0);
        x.erase(0);
        due("a key is in it", x.count(12), 0);
        x.tick(3);
        x.clean(0);
        x.tick(20);
        x.erase(0);
        due("erased", x.count(12), 1);
        due("not erased", x.count(13), 0);
        due("acknowledged", x.count(7), 2);
        PagePairs full = written(16);
        due("full", full.count(3), 16);
        due("keys", full.count(11), 12);
    }

    private static void promise17() {
        promise = 17;
        PagePairs x = new PagePairs();
        due("ticks -1", x.wouldLose(-1), INVALID);
        due("ticks 201", x.wouldLose(201), INVALID);
        due("nothing", x.wouldLose(0), 0);
        due("nothing", x.wouldLose(200), 0);
        x.set(2, 0);
        x.write(5, 1, 0);
        x.write(6, 2, 0);
        x.write(7, 3, 0);
        x.write(8, 4, 0);
        x.write(9, 5, 0);
        due("before it", x.wouldLose(4), 0);
        due("the wordline 0", x.wouldLose(5), 1 << 5);
        due("the wordline 0", x.wouldLose(8), 1 << 5);
        due("behind it", x.wouldLose(9), 0);
        due("the wordline 1", x.wouldLose(12), 1 << 6);
        due("behind all", x.wouldLose(16), 0);
        due("it changes nothing", x.count(0), 0);
        due("it changes nothing", x.count(4), 5);
        due("it changes nothing", x.count(9), 0);
        due("no change", x.count(16), 4);
        x.tick(6);
        due("now", x.wouldLose(0), 1 << 5);
        due("still on", x.count(1), 1);
        PagePairs late = new PagePairs();
        for (int i = 0; i < 45; i++) {
            late.tick(200);
        }
        due("above the time", late.wouldLose(200), 0);
        x.cut();
        due("off", x.wouldLose(0), IMPOSSIBLE);
        due("off, wrong", x.wouldLose(201), INVALID);
    }

    private static void promise18() {
        promise = 18;
        PagePairs x = new PagePairs();
        due("none", x.doneIn(), 0);
        x.write(0, 1, 0);
        due("2", x.doneIn(), 2);
        x.write(1, 2, 0);
        x.write(2, 3, 0);
        due("2, 2, 2 and 5", x.doneIn(), 11);
        x.tick(1);
        due("one less", x.doneIn(), 10);
        due("no change", x.count(16), 4);
        x.slow(0, 3);
        due("slower", x.doneIn(), 13);
        x.tick(13);
        due("done", x.doneIn(), 0);
        PagePairs full = written(15);
        full.write(0, 1, 0);
        due("up to the last position", full.doneIn(), 7);
        full.write(0, 1, 0);
        due("full before", full.doneIn(), NONE);
        full.tick(6);
        due("full before", full.doneIn(), NONE);
        full.tick(1);
        due("full", full.doneIn(), NONE);
        full.turn();
        due("in the other block", full.doneIn(), 2);
        full.tick(2);
        due("none", full.doneIn(), 0);
        PagePairs passed = written(1);
        passed.turn();
        passed.clean(0);
        passed.clean(0);
        due("the tick in which one is passed over", passed.doneIn(), 3);
        passed.cut();
        due("off", passed.doneIn(), IMPOSSIBLE);
    }

    private static void promise19() {
        promise = 19;
        PagePairs x = new PagePairs();
        due("empty", x.undo(), IMPOSSIBLE);
        x.write(1, 10, 0);
        x.tick(2);
        x.slow(1, 5);
        x.set(0, 9);
        due("states", x.count(16), 4);
        x.cut();
        due("at most 4", x.count(16), 4);
        x.type('x');
        due("before the cut", x.undo(), 3);
        due("power", x.count(1), 1);
        due("cuts", x.count(14), 0);
        due("the text stays", x.count(17), 1);
        due("before set", x.undo(), 2);
        due("setting", x.count(20), 2);
        due("before slow", x.undo(), 1);
        due("slowness", x.count(31), 0);
        due("written", x.read(1), 10);
        due("before tick", x.undo(), 0);
        due("not written", x.read(1), NONE);
        due("time", x.count(0), 0);
        due("waits", x.waits(0, 1), 10);
        due("the oldest one was dropped", x.undo(), IMPOSSIBLE);
        x.tick(1);
        due("a new change", x.count(16), 1);
        x.tick(1);
        due("the stamps begin anew", x.placeOf(1, 2), 1);
        undoOfEach();
    }

    private static void undoOfEach() {
        PagePairs x = written(2);
        x.write(2, 3, 0);
        x.tick(3);
        x.cut();
        x.on();
        x.undo();
        due("off again", x.count(1), 0);
        due("nothing waits", x.count(4), 0);
        x.undo();
        due("being written again", x.count(6), 4);
        due("its backup", x.backupOf(0, 0, 0), 1);
        due("the early page", x.pageOf(0, 0, 0), 2);
        due("acknowledged", x.tick(4), 1);
        x.turn();
        x.erase(1);
        x.clean(0);
        x.undo();
        due("not cleaned", x.count(4), 3 - 3);
        due("not turned", x.undo(), 2);
        due("active", x.count(2), 0);
        due("next", x.count(3), 3);
        x.turn();
        x.clean(0);
        due("three", x.count(4), 3);
        x.tick(20);
        x.erase(0);
        x.undo();
        due("not erased", x.count(12), 0);
        due("its pages", x.pageOf(0, 1, 1), 1);
    }

    private static void promise20() {
        promise = 20;
        PagePairs x = new PagePairs();
        due("type(31)", x.type(31), INVALID);
        due("type(127)", x.type(127), INVALID);
        due("type(-1)", x.type(-1), INVALID);
        due("type(32)", x.type(32), 1);
        due("type(126)", x.type(126), 2);
        for (int length = 3; length <= 60; length++) {
            due("type('a')", x.type('a'), length);
        }
        due("a character too many", x.type('a'), LIMIT);
        due("a wrong one", x.type(127), INVALID);
        due("its length", x.count(17), 60);
        due("no change", x.count(16), 0);
    }

    private static void promise21() {
        promise = 21;
        PagePairs x = new PagePairs();
        due("empty", x.clearText(), 0);
        typeAll(x, "x;o;");
        due("4 characters", x.clearText(), 4);
        due("empty", x.count(17), 0);
        due("empty", x.clearText(), 0);
        due("from the first one", x.type('s'), 1);
        due("no change", x.count(16), 0);
    }

    private static void promise22() {
        promise = 22;
        PagePairs x = new PagePairs();
        due("what -1", x.fault(-1), INVALID);
        due("what 3", x.fault(3), INVALID);
        due("empty", x.fault(0), NONE);
        faultIs(x, "t0;", 0, 2, INVALID);
        faultIs(x, "t201;", 0, 2, INVALID);
        faultIs(x, "t200;t1;t999;", 8, 2, INVALID);
        faultIs(x, "w12,0;", 0, 2, INVALID);
        faultIs(x, "w000,999;u011,000;", NONE, NONE, NONE);
        x.undo();
        faultIs(x, "x;x;", 2, 2, IMPOSSIBLE);
        faultIs(x, "x;o;o;", 4, 2, IMPOSSIBLE);
        faultIs(x, "x;t1;", 2, 2, IMPOSSIBLE);
        faultIs(x, "x;w1,1;", 2, 2, IMPOSSIBLE);
        faultIs(x, "x;w1,1", 2, 1, NONE);
        faultIs(x, "x;s;", 2, 2, IMPOSSIBLE);
        faultIs(x, "w1,1;t1;s;", 8, 2, IMPOSSIBLE);
        faultIs(x, "c2;", 0, 2, INVALID);
        faultIs(x, "c0;", 0, 2, IMPOSSIBLE);
        faultIs(x, "e2;", 0, 2, INVALID);
        faultIs(x, "e1;e0;", 3, 2, IMPOSSIBLE);
        faultIs(x, "w1,1;t2;s;e0;", 10, 2, IMPOSSIBLE);
        faultIs(x, "w1,1;w1,1;w1,1;w1,1;w1,1;w1,1;w1,1;w1,1;u1,1;", 40, 2, LIMIT);
        for (int i = 0; i < 45; i++) {
            x.tick(200);
        }
        faultIs(x, "s;t1;q", 2, 2, LIMIT);
        due("it changes nothing", x.count(2), 0);
        x.cut();
        due("it is of the present state", x.fault(0), 0);
    }

    private static void promise22Forms() {
        promise = 22;
        PagePairs x = new PagePairs();
        String[] wrongOnes = {"q;", ";", " x;", "x", "x ;", "X;", "xx;", "o1;", "s1;", "t;", "t", "t1", "t1,1;",
            "t0001;", "t-1;", "w1;", "w1,;", "w,1;", "w1,1", "w1,1,1;", "w1 ,1;", "w0001,1;", "w1,0001;", "w", "w1",
            "w1,", "u1;", "u1.1;", "c;", "c0,1;", "e;", "ea;", "t:;", "t/;"};
        for (String text : wrongOnes) {
            faultIs(x, text, 0, 1, NONE);
        }
        for (String text : wrongOnes) {
            faultIs(x, "s;t1;" + text, 5, 1, NONE);
        }
        due("nothing is done", x.count(16), 0);
        faultIs(x, "s;s;e1;e01;e001;c1;t5;x;o;", NONE, NONE, NONE);
        StringBuilder full = new StringBuilder();
        for (int i = 0; i < 30; i++) {
            full.append("s;");
        }
        faultIs(x, full.toString(), NONE, NONE, NONE);
        full.setLength(59);
        faultIs(x, full.toString(), 58, 1, NONE);
    }

    private static void promise23() {
        promise = 23;
        PagePairs x = new PagePairs();
        due("empty", x.play(), 0);
        due("a change", x.count(16), 1);
        typeAll(x, "w3,30;u4,40;t2;w5,50;");
        due("play()", x.play(), 4);
        due("one change", x.count(16), 2);
        due("the text stays", x.count(17), 21);
        due("urgent", x.read(4), 40);
        due("not urgent", x.waits(0, 2), 2);
        due("waits", x.waits(1, 0), 5);
        due("again", x.play(), 4);
        due("time", x.count(0), 4);
        due("undo", x.undo(), 2);
        due("time", x.count(0), 2);
        due("undo", x.undo(), 1);
        due("time", x.count(0), 0);
        due("no requests", x.count(4), 0);
        typeAll(x, "x;o;s;e0;c0;t7;x;");
        due("each of the others", x.play(), 7);
        due("cuts", x.count(14), 2);
        due("off", x.count(1), 0);
        due("active", x.count(2), 1);
        due("erased", x.count(12), 1);
        due("time", x.count(0), 7);
        due("it has a fault now", x.play(), IMPOSSIBLE);
        due("nothing is done", x.count(14), 2);
        due("no change", x.count(16), 2);
        PagePairs cleaned = written(1);
        typeAll(cleaned, "s;c0;t2;e0;");
        due("cleaned and erased", cleaned.play(), 4);
        due("moved", cleaned.placeOf(0, 0), 1);
        cleaned.undo();
        due("as before", cleaned.placeOf(0, 0), 0);
    }
}
