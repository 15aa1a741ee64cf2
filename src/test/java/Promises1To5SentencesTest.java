/** A test for each sentence of promises 1 to 5 that names a boundary. */
public final class Promises1To5SentencesTest extends Scene {
    private static final String NEW = "Promise 1";
    private static final String OP = "Promise 2";
    private static final String ADDRESS = "Promise 3";
    private static final String NUMBER = "Promise 4";
    private static final String TRIED = "Promise 5";

    public static void main(String[] args) {
        Sentences.runAll(Promises1To5SentencesTest.class);
    }

    // Promise 1: a new object

    @Sentence(in = NEW, says = "No ops.")
    static void aNewObjectHasNoOps(LoadStoreRows x) {
        counts("new", x, 0, 0, 0, 0, 0, 0, 0, 0, 0, NONE);
        Check.due("none leaves", x.leave(), NONE);
        Check.due("none drains", x.drain(), NONE);
        Check.throwsIndex("none to forget", () -> x.forget(0));
        Check.throwsIndex("none to try", () -> x.tried(0));
    }

    @Sentence(in = NEW, says = "No ops.")
    static void objectsShareNothing(LoadStoreRows x) {
        mark(x, 3);
        x.other(4, 5);
        bufferedStore(x, 1, 6, 7);
        fence(x);
        LoadStoreRows y = new LoadStoreRows();
        counts("a second one", y, 0, 0, 0, 0, 0, 0, 0, 0, 0, NONE);
        Check.due("memory", y.memory(4), 0);
        Check.due("marked", y.marked(3), false);
        Check.due("the first one's buffer is its own", x.drain(), 0);
    }

    // Promise 2: op

    @Sentence(in = OP, says = "An op more: its number.")
    static void opAnswersItsNumber(LoadStoreRows x) {
        for (int i = 0; i < 150; i++) {
            Check.due("number", x.op(FENCE, 0, -i), i);
            Check.due("ops so far", x.count(0), i + 1);
            x.leave();
        }
    }

    @Sentence(in = OP, says = "IllegalArgumentException, when there is no such kind,")
    static void thereAreKinds0To3(LoadStoreRows x) {
        for (int bytes : new int[] {0, 1, 2, 4}) {
            for (int kind : new int[] {-1, 4, 5, 64, Integer.MIN_VALUE, Integer.MAX_VALUE}) {
                Check.throwsArgument("kind " + kind + " of " + bytes, () -> x.op(kind, bytes, 0));
            }
        }
        Check.due("kind 0", x.op(0, 1, 0), 0);
        Check.due("kind 3", x.op(3, 1, 0), 1);
    }

    @Sentence(in = OP, says = "or so many bytes are none (0 for a fence);")
    static void soManyBytesAreNone(LoadStoreRows x) {
        for (int kind : new int[] {LOAD, STORE, EXCHANGE}) {
            for (int bytes : new int[] {0, 3, 5, 6, 8, -1, -4, Integer.MIN_VALUE, Integer.MAX_VALUE}) {
                Check.throwsArgument("kind " + kind + " of " + bytes, () -> x.op(kind, bytes, 0));
            }
        }
        for (int bytes : new int[] {1, 2, 4, -1}) {
            Check.throwsArgument("a fence of " + bytes, () -> x.op(FENCE, bytes, 0));
        }
        Check.due("a fence of 0", x.op(FENCE, 0, 0), 0);
    }

    @Sentence(in = OP, says = "UnsupportedOperationException, when 32 wait.")
    static void no33rdOpWaits(LoadStoreRows x) {
        for (int i = 0; i < 31; i++) {
            x.op(LOAD, 1, 0);
        }
        Check.due("the 32nd", x.op(FENCE, 0, 0), 31);
        for (int kind : new int[] {LOAD, STORE, EXCHANGE}) {
            Check.throwsUnsupported("the 33rd, kind " + kind, () -> x.op(kind, 1, 0));
        }
        Check.throwsUnsupported("the 33rd, a fence", () -> fence(x));
        x.forget(31);
        Check.due("room by forget", fence(x), 31);
        x.address(0, 0);
        x.tried(0);
        x.leave();
        Check.due("room by leave", fence(x), 32);
        Check.throwsUnsupported("full again", () -> fence(x));
    }

    @Sentence(in = OP, says = "UnsupportedOperationException, when 32 wait.")
    static void storesInTheBufferDoNotWait(LoadStoreRows x) {
        for (int i = 0; i < 4; i++) {
            bufferedStore(x, 1, i, 1);
        }
        for (int i = 4; i < 36; i++) {
            Check.due("comes", fence(x), i);
        }
        Check.throwsUnsupported("the 33rd that waits", () -> fence(x));
    }

    @Sentence(in = OP, says = "IllegalArgumentException, when there is no such kind,")
    static void aRefusedOpDidNotCome(LoadStoreRows x) {
        fence(x);
        String before = allCounts(x);
        for (int i = 0; i < 32; i++) {
            Check.throwsArgument("no kind", () -> x.op(4, 1, 0));
            Check.throwsArgument("no bytes", () -> x.op(LOAD, 0, 0));
        }
        Check.due("as before", allCounts(x), before);
        for (int i = 1; i < 32; i++) {
            Check.due("numbers go on", fence(x), i);
        }
        for (int i = 0; i < 32; i++) {
            Check.throwsUnsupported("full", () -> fence(x));
        }
        Check.due("32 wait", x.count(1), 32);
        x.leave();
        Check.due("and the next one is", fence(x), 32);
    }

    // Promise 3: address

    @Sentence(in = ADDRESS, says = "An op's address: how many loads are undone by it.")
    static void addressAnswersHowManyAreUndone(LoadStoreRows x) {
        for (int loads : new int[] {0, 1, 2, 31}) {
            LoadStoreRows y = new LoadStoreRows();
            int store = y.op(STORE, 1, 0);
            for (int i = 0; i < loads; i++) {
                doneLoad(y, 1, i, i == 0 ? 20 : 30);
            }
            Check.due("undone of " + loads, y.address(store, 20), loads);
            Check.due("undone so far", y.count(4), loads);
        }
        Check.due("by a load's", x.address(x.op(LOAD, 1, 0), 20), 0);
        Check.due("by an exchange's", x.address(x.op(EXCHANGE, 1, 0), 20), 0);
    }

    @Sentence(in = ADDRESS, says = "IllegalArgumentException, when it can not be its address,")
    static void whatCanNotBeItsAddress(LoadStoreRows x) {
        int op = x.op(STORE, 4, 0);
        doneLoad(x, 4, 0, 3068);
        String before = allCounts(x);
        for (int at : new int[] {-1, -4, 3069, 3070, 3071, 4093, 4095, 4096, 1 << 30,
            Integer.MIN_VALUE, Integer.MAX_VALUE, Integer.MAX_VALUE - 3}) {
            Check.throwsArgument("at " + at, () -> x.address(op, at));
        }
        Check.due("a refused one undoes none", allCounts(x), before);
        Check.due("and is not told", x.address(op, 3068), 1);
    }

    @Sentence(in = ADDRESS, says = "it is a fence,")
    static void aFenceHasNoAddress(LoadStoreRows x) {
        int fence = fence(x);
        for (int at : new int[] {-1, 0, 1, 4095, 4096}) {
            Check.throwsArgument("at " + at, () -> x.address(fence, at));
        }
        Check.due("it leaves without", x.leave(), fence);
    }

    @Sentence(in = ADDRESS, says = "does not wait,")
    static void noAddressForOneThatLeft(LoadStoreRows x) {
        for (int kind : new int[] {LOAD, STORE, FENCE, EXCHANGE}) {
            int op = told(x, kind, kind == FENCE ? 0 : 1, 20, 1);
            if (kind == LOAD) {
                x.tried(op);
            }
            Check.due("leaves", x.leave(), op);
            Check.throwsArgument("kind " + kind, () -> x.address(op, 21));
            x.drain();
        }
        // after 128 more its slot may be that of an op that waits for an address
        for (int i = 4; i < 128; i++) {
            fence(x);
            x.leave();
        }
        for (int i = 0; i < 4; i++) {
            int old = i;
            x.op(STORE, 1, 0);
            Check.throwsArgument("old " + i, () -> x.address(old, 21));
        }
        Check.due("the new one has none yet", x.address(129, 21), 0);
    }

    @Sentence(in = ADDRESS, says = "or has one.")
    static void noSecondAddress(LoadStoreRows x) {
        for (int kind : new int[] {LOAD, STORE, EXCHANGE}) {
            int op = x.op(kind, 1, 0);
            x.address(op, 0);
            Check.throwsArgument("the same, kind " + kind, () -> x.address(op, 0));
            Check.throwsArgument("another, kind " + kind, () -> x.address(op, 1));
        }
        x.forget(0);
        int store = x.op(STORE, 1, 0);
        doneLoad(x, 1, 0, 20);
        x.address(store, 10);
        Check.throwsArgument("another", () -> x.address(store, 20));
        Check.due("a refused one undoes none", x.count(4), 0);
    }

    // Promise 4: number

    @Sentence(in = NUMBER, says = "A store's or exchange's number: how many bytes it has.")
    static void numberAnswersHowManyBytes(LoadStoreRows x) {
        int[] numbers = {0, -1, Integer.MIN_VALUE, Integer.MAX_VALUE, 256};
        for (int kind : new int[] {STORE, EXCHANGE}) {
            for (int bytes : new int[] {1, 2, 4}) {
                for (int v : numbers) {
                    Check.due("of " + bytes, x.number(x.op(kind, bytes, 0), v), bytes);
                }
            }
        }
    }

    @Sentence(in = NUMBER, says = "IllegalArgumentException, when it is none of these,")
    static void noNumberForALoadOrFence(LoadStoreRows x) {
        int load = x.op(LOAD, 4, 0);
        int fence = fence(x);
        Check.throwsArgument("a load", () -> x.number(load, 1));
        x.address(load, 20);
        Check.throwsArgument("a load with an address", () -> x.number(load, 1));
        x.tried(load);
        Check.throwsArgument("a load that is done", () -> x.number(load, 1));
        Check.due("it keeps what it loaded", x.loaded(load), 0);
        Check.throwsArgument("a fence", () -> x.number(fence, 1));
    }

    @Sentence(in = NUMBER, says = "does not wait,")
    static void noNumberForOneThatLeft(LoadStoreRows x) {
        int exchange = exchange(x, 1, 20, 1);
        x.leave();
        Check.throwsArgument("an exchange", () -> x.number(exchange, 2));
        int store = bufferedStore(x, 1, 20, 1);
        Check.throwsArgument("a store in the buffer", () -> x.number(store, 2));
        x.drain();
        Check.throwsArgument("a store in memory", () -> x.number(store, 2));
        Check.due("it keeps its number", x.memory(20), 1);
        fencesThatLeft(x, 126);
        for (int i = 0; i < 2; i++) {
            int old = i;
            x.op(STORE, 1, 0);
            Check.throwsArgument("old " + i, () -> x.number(old, 2));
        }
        Check.due("the new one has none yet", x.number(129, 2), 1);
    }

    @Sentence(in = NUMBER, says = "or has one.")
    static void noSecondNumber(LoadStoreRows x) {
        for (int kind : new int[] {EXCHANGE, STORE}) {
            int op = x.op(kind, 1, 0);
            x.number(op, 0);
            Check.throwsArgument("the same, kind " + kind, () -> x.number(op, 0));
            Check.throwsArgument("another, kind " + kind, () -> x.number(op, 1));
            x.address(op, 20);
            x.leave();
            x.drain();
            Check.due("the first one stays", x.memory(20), 0);
        }
    }

    // Promise 5: tried

    @Sentence(in = TRIED, says = "Tries a load: 1 to 4 as told.")
    static void triedAnswers1To4(LoadStoreRows x) {
        mark(x, 1);
        x.address(x.op(STORE, 1, 0), 20);
        x.op(STORE, 1, 0);
        int load = load(x, 1, 0, 30);
        int noNumber = load(x, 1, 0, 20);
        int marked = load(x, 1, 1, 30);
        int device = load(x, 1, 0, 3072);
        String before = allCounts(x);
        Check.due("marked", x.tried(marked), 3);
        Check.due("no number", x.tried(noNumber), 4);
        Check.due("a device's", x.tried(device), 2);
        Check.due("2, 3 and 4 change nothing", allCounts(x), before);
        Check.due("none of these", x.tried(load), 1);
        Check.due("1 makes it done", x.count(3), 1);
        for (int op : new int[] {noNumber, marked, device}) {
            Check.throwsArgument(op + " is not done", () -> x.loaded(op));
        }
    }

    @Sentence(in = TRIED, says = "IllegalArgumentException, when it is none,")
    static void onlyALoadIsTried(LoadStoreRows x) {
        for (int kind : new int[] {STORE, FENCE, EXCHANGE}) {
            int op = told(x, kind, kind == FENCE ? 0 : 1, 20, 1);
            Check.throwsArgument("kind " + kind, () -> x.tried(op));
        }
        Check.due("none done", x.count(3), 0);
        Check.due("no bytes", x.count(6) + x.count(7), 0);
    }

    @Sentence(in = TRIED, says = "does not wait,")
    static void noLoadThatLeftIsTried(LoadStoreRows x) {
        int load = doneLoad(x, 1, 0, 20);
        x.leave();
        Check.throwsArgument("left", () -> x.tried(load));
        x.other(20, 1);
        Check.throwsArgument("left, and its byte was written", () -> x.tried(load));
        Check.due("it keeps what it loaded", x.loaded(load), 0);
        fencesThatLeft(x, 127);
        int next = load(x, 1, 0, 20);
        Check.throwsArgument("128 came behind it", () -> x.tried(load));
        Check.due("the new one", x.tried(next), 1);
    }

    @Sentence(in = TRIED, says = "has no address")
    static void noLoadWithoutAnAddressIsTried(LoadStoreRows x) {
        int load = x.op(LOAD, 1, 0);
        Check.throwsArgument("no address", () -> x.tried(load));
        fence(x);
        int behind = x.op(LOAD, 1, 0);
        Check.throwsArgument("no address, and a fence", () -> x.tried(behind));
        x.address(load, 0);
        Check.due("with address 0", x.tried(load), 1);
        x.forget(load);
        x.op(LOAD, 1, 0);
        Check.throwsArgument("the address of a forgotten one is not its own", () -> x.tried(load));
    }

    @Sentence(in = TRIED, says = "or is done.")
    static void noLoadThatIsDoneIsTried(LoadStoreRows x) {
        int store = x.op(STORE, 1, 0);
        int load = doneLoad(x, 2, 0, 20);
        Check.throwsArgument("done", () -> x.tried(load));
        Check.due("its bytes are counted once", x.count(7), 2);
        x.address(store, 20);
        x.number(store, 1);
        Check.due("undone", x.tried(load), 1);
        Check.throwsArgument("done again", () -> x.tried(load));
    }
}
