import java.util.ArrayList;
import java.util.List;
import java.util.function.Consumer;
import java.util.function.Supplier;
import java.util.function.ToIntBiFunction;
import java.util.function.ToIntFunction;

/** What the tests of the document's sentences share. */
final class Checks {
    static final int INVALID = PagePairs.INVALID_ARGUMENT;
    static final int IMPOSSIBLE = PagePairs.NOT_POSSIBLE;
    static final int LIMIT = PagePairs.LIMIT_REACHED;
    static final int NONE = PagePairs.NOT_FOUND;

    /** What could show that a call has changed something: the rest of the state, the history, the text. */
    private static final List<Consumer<PagePairs>> LATER = List.of(
            x -> { },
            x -> undo(x, 1),
            x -> undo(x, 2),
            x -> undo(x, 3),
            x -> undo(x, 4),
            PagePairs::play,
            Checks::goOn);

    private static String sentence = "";
    private static int wrong = 0;
    private static int asked = 0;

    private Checks() {
    }

    /** The words of the document that the answers behind it are due by. */
    static void sentence(String words) {
        sentence = words;
    }

    static void due(String call, int got, int want) {
        asked++;
        if (got != want) {
            wrong++;
            System.out.println("\"" + sentence + "\": " + call + " answered " + got + ", due is " + want);
        }
    }

    static void end() {
        System.out.println(wrong == 0 ? asked + " answers are as due" : wrong + " answers are not as due");
        if (wrong != 0) {
            System.exit(1);
        }
    }

    // ---- calls that change nothing

    /** The call answers so, and behind it the object is as one on which it wasn't made. */
    static void leavesAll(String name, Supplier<PagePairs> made, ToIntFunction<PagePairs> call, int answer) {
        alike(name, () -> {
            PagePairs x = made.get();
            due(name, call.applyAsInt(x), answer);
            return x;
        }, made);
    }

    /** Objects that are made so, and otherwise, answer alike, whatever is done later. */
    static void alike(String name, Supplier<PagePairs> so, Supplier<PagePairs> otherwise) {
        for (int i = 0; i < LATER.size(); i++) {
            PagePairs x = so.get();
            PagePairs y = otherwise.get();
            LATER.get(i).accept(x);
            LATER.get(i).accept(y);
            sameIn(name + ", later " + i, everything(x), everything(y));
        }
    }

    /** The least and the greatest argument are allowed; those beyond each are refused and change nothing. */
    static void range(String name, List<Supplier<PagePairs>> states, ToIntBiFunction<PagePairs, Integer> call,
            int least, int most) {
        for (Supplier<PagePairs> made : states) {
            allowed(name, made, call, least, most);
            for (int outside : new int[] {least - 1, most + 1, Integer.MIN_VALUE, Integer.MAX_VALUE}) {
                if (outside < least || outside > most) {
                    leavesAll(name + " with " + outside, made, x -> call.applyAsInt(x, outside), INVALID);
                }
            }
        }
    }

    private static void allowed(String name, Supplier<PagePairs> made, ToIntBiFunction<PagePairs, Integer> call,
            int least, int most) {
        for (int inside = least; inside <= most && inside < least + 1000; inside++) {
            boolean refused = call.applyAsInt(made.get(), inside) == INVALID;
            due(name + " with " + inside + " is refused", refused ? 1 : 0, 0);
        }
        due(name + " with " + most + " is refused", call.applyAsInt(made.get(), most) == INVALID ? 1 : 0, 0);
    }

    private static void sameIn(String name, List<String> got, List<String> want) {
        for (int i = 0; i < want.size(); i++) {
            if (!got.get(i).equals(want.get(i))) {
                wrong++;
                System.out.println("\"" + sentence + "\": behind " + name + " " + got.get(i) + ", due is " + want.get(i));
            }
        }
    }

    private static void undo(PagePairs x, int times) {
        for (int i = 0; i < times; i++) {
            x.undo();
        }
    }

    private static void goOn(PagePairs x) {
        x.on();
        x.write(11, 5, 1);
        x.tick(60);
        x.turn();
        x.tick(40);
    }

    /** All that can be asked for, in some 320 calls: an object may be asked 512. */
    static List<String> everything(PagePairs x) {
        List<String> all = new ArrayList<>();
        for (int what = 0; what < 38; what++) {
            all.add("count(" + what + ") is " + x.count(what));
        }
        for (int key = 0; key < 12; key++) {
            all.add("read(" + key + ") is " + x.read(key));
            for (int what = 0; what < 3; what++) {
                all.add("placeOf(" + key + ", " + what + ") is " + x.placeOf(key, what));
            }
        }
        for (int block = 0; block < 2; block++) {
            cellsOf(x, block, all);
        }
        for (int index = 0; index < 8; index++) {
            for (int what = 0; what < 3; what++) {
                all.add("waits(" + index + ", " + what + ") is " + x.waits(index, what));
            }
        }
        for (int ticks = 0; ticks < 20; ticks++) {
            all.add("wouldLose(" + ticks + ") is " + x.wouldLose(ticks));
        }
        all.add("doneIn() is " + x.doneIn());
        for (int what = 0; what < 3; what++) {
            all.add("fault(" + what + ") is " + x.fault(what));
        }
        return all;
    }

    private static void cellsOf(PagePairs x, int block, List<String> all) {
        for (int position = 0; position < 16; position++) {
            for (int what = 0; what < 4; what++) {
                all.add("pageOf(" + block + ", " + position + ", " + what + ") is " + x.pageOf(block, position, what));
            }
        }
        for (int wordline = 0; wordline < 8; wordline++) {
            for (int what = 0; what < 4; what++) {
                all.add("backupOf(" + block + ", " + wordline + ", " + what + ") is "
                        + x.backupOf(block, wordline, what));
            }
        }
    }

    // ---- objects to begin with

    /** The keys 0, 1, 2 and so on (0 again behind 11) with the values 100, 101 and so on are written to it. */
    static void fill(PagePairs x, int many) {
        for (int i = 0; i < many; i++) {
            x.write(i % 12, 100 + i, 0);
            x.tick(7);
        }
    }

    static PagePairs written(int many) {
        PagePairs x = new PagePairs();
        fill(x, many);
        return x;
    }

    static void typeAll(PagePairs x, String text) {
        x.clearText();
        for (int i = 0; i < text.length(); i++) {
            x.type(text.charAt(i));
        }
    }

    static PagePairs typed(String text) {
        PagePairs x = new PagePairs();
        typeAll(x, text);
        return x;
    }

    /** Asks for a writing, lets so many of its ticks go by, and cuts the power: the page is torn. */
    static void tear(PagePairs x, int key, int ticks) {
        x.write(key, 900 + key, 0);
        x.tick(ticks);
        x.cut();
    }

    /** The key 0 (value 100, stamp 1) has its place in the backup of wordline 0 of block 0; the power is off. */
    static PagePairs inBackup() {
        PagePairs x = written(2);
        tear(x, 2, 3);
        return x;
    }

    /** The keys 0 and 1 have their places in the backups of the wordlines 0 and 1 of block 0; the power is off. */
    static PagePairs inBackups() {
        PagePairs x = inBackup();
        x.on();
        x.tick(1);
        x.cut();
        x.on();
        x.tick(3);
        x.cut();
        return x;
    }

    /** Eight wait, one is being written; its backup is complete; four states, and a text with a fault. */
    static PagePairs busy() {
        PagePairs x = written(2);
        x.write(2, 200, 0);
        x.tick(3);
        for (int i = 1; i <= 8; i++) {
            x.write(2 + i, 200 + i, i % 2);
        }
        typeAll(x, "t1;q");
        return x;
    }

    static PagePairs off() {
        PagePairs x = inBackups();
        typeAll(x, "o;t4;");
        return x;
    }

    /** The active block is full and eight wait, in a text of 60 characters. */
    static PagePairs crowded() {
        PagePairs x = written(16);
        for (int i = 0; i < 8; i++) {
            x.write(i, i, i % 2);
        }
        typeAll(x, "s;".repeat(30));
        return x;
    }

    /** The time is 8800 plus some ticks. */
    static PagePairs old(int ticks) {
        PagePairs x = new PagePairs();
        for (int i = 0; i < 44; i++) {
            x.tick(200);
        }
        if (ticks > 0) {
            x.tick(ticks);
        }
        return x;
    }

    static List<Supplier<PagePairs>> states() {
        return List.of(PagePairs::new, Checks::busy, Checks::off, Checks::crowded, () -> old(200));
    }
}
