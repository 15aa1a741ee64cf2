/** A test for each sentence of promises 6 to 14 that names a boundary. */
public final class Promises6To14SentencesTest extends Scene {
    private static final String LOADED = "Promise 6";
    private static final String SOURCE = "Promise 7";
    private static final String LEAVE = "Promise 8";
    private static final String DRAIN = "Promise 9";
    private static final String OTHER = "Promise 10";
    private static final String MEMORY = "Promise 11";
    private static final String FORGET = "Promise 12";
    private static final String MARKED = "Promise 13";
    private static final String COUNT = "Promise 14";

    public static void main(String[] args) {
        Sentences.runAll(Promises6To14SentencesTest.class);
    }

    // Promise 6: loaded

    @Sentence(in = LOADED, says = "What a load (that is done, or was when it left)")
    static void whatALoadLoaded(LoadStoreRows x) {
        x.other(20, 7);
        int load = load(x, 1, 0, 20);
        Check.throwsArgument("not done", () -> x.loaded(load));
        x.tried(load);
        Check.due("done", x.loaded(load), 7);
        x.leave();
        Check.due("left", x.loaded(load), 7);
        x.other(20, 8);
        Check.due("left, and its byte was written", x.loaded(load), 7);
    }

    @Sentence(in = LOADED, says = "or an exchange (that left) loaded:")
    static void whatAnExchangeLoaded(LoadStoreRows x) {
        x.other(20, 7);
        int exchange = exchange(x, 1, 20, 9);
        Check.throwsArgument("it waits", () -> x.loaded(exchange));
        x.leave();
        Check.due("it left", x.loaded(exchange), 7);
        x.other(20, 8);
        Check.due("it keeps it", x.loaded(exchange), 7);
    }

    @Sentence(in = LOADED, says = "the number, from 0 on but of four bytes.")
    static void onlyFourBytesMayBeBelow0(LoadStoreRows x) {
        otherWrites(x, 20, 0xFF, 0xFF, 0xFF, 0xFE);
        int[] due = {0, 0xFF, 0xFFFF, 0, -2};
        for (int bytes : new int[] {1, 2, 4}) {
            Check.due("a load of " + bytes, x.loaded(doneLoad(x, bytes, 0, 20)), due[bytes]);
        }
        for (int bytes : new int[] {1, 2, 4}) {
            x.leave();
        }
        for (int bytes : new int[] {1, 2, 4}) {
            int exchange = exchange(x, bytes, 20, -1);
            x.leave();
            Check.due("an exchange of " + bytes, x.loaded(exchange), due[bytes]);
            otherWrites(x, 20, 0xFF, 0xFF, 0xFF, 0xFE);
        }
        store(x, 2, 40, 0xFFFF8000);
        Check.due("by a store", x.loaded(doneLoad(x, 2, 0, 40)), 0x8000);
        otherWrites(x, 50, 0x80, 0, 0, 0);
        Check.due("the lowest", x.loaded(doneLoad(x, 4, 0, 50)), Integer.MIN_VALUE);
        otherWrites(x, 50, 0x7F, 0xFF, 0xFF, 0xFF);
        Check.due("the highest", x.loaded(doneLoad(x, 4, 0, 50)), Integer.MAX_VALUE);
    }

    @Sentence(in = LOADED, says = "IllegalArgumentException, when it is none such.")
    static void noneSuchHasLoaded(LoadStoreRows x) {
        int store = store(x, 1, 20, 1);
        int fence = fence(x);
        int exchange = exchange(x, 1, 20, 1);
        int load = load(x, 1, 0, 20);
        for (int op : new int[] {store, fence, exchange, load}) {
            Check.throwsArgument(op + " waits", () -> x.loaded(op));
        }
        x.leave();
        x.drain();
        x.leave();
        Check.throwsArgument("a store that left", () -> x.loaded(store));
        Check.throwsArgument("a fence that left", () -> x.loaded(fence));
        x.leave();
        x.tried(load);
        x.other(20, 2);
        Check.throwsArgument("a load that was undone", () -> x.loaded(load));
    }

    @Sentence(in = LOADED, says = "when 64 ops or more came behind it.")
    static void loadedIsKeptFor63Ops(LoadStoreRows x) {
        x.other(20, 7);
        doneLoad(x, 1, 0, 20);
        x.leave();
        exchange(x, 1, 20, 8);
        x.leave();
        fencesThatLeft(x, 62);
        Check.due("63 came behind the load", x.loaded(0), 7);
        fence(x);
        Check.throwsState("64 came behind the load", () -> x.loaded(0));
        Check.due("63 came behind the exchange", x.loaded(1), 7);
        fence(x);
        Check.throwsState("65 came behind the load", () -> x.loaded(0));
        Check.throwsState("64 came behind the exchange", () -> x.loaded(1));
        x.leave();
        x.leave();
        fencesThatLeft(x, 64);
        Check.due("130 ops came", x.count(0), 130);
        Check.throwsState("129 came behind the load", () -> x.loaded(0));
        Check.throwsState("128 came behind the exchange", () -> x.loaded(1));
    }

    @Sentence(in = LOADED, says = "IllegalStateException (ahead of IllegalArgument),")
    static void stateGoesAheadOfArgument(LoadStoreRows x) {
        fencesThatLeft(x, 64);
        Check.throwsArgument("a fence with 63 behind it", () -> x.loaded(0));
        fence(x);
        Check.throwsState("a fence with 64 behind it", () -> x.loaded(0));
        Check.throwsArgument("the next fence", () -> x.loaded(1));
        Check.throwsIndex("but no op goes ahead of both", () -> x.loaded(65));
        Check.throwsIndex("below too", () -> x.loaded(-1));
    }

    // Promise 7: source

    @Sentence(in = SOURCE, says = "From where a load that is done and waits took its byte k (the first one 0):")
    static void byte0IsTheFirst(LoadStoreRows x) {
        for (int k = 0; k < 4; k++) {
            store(x, 1, 20 + k, k);
        }
        int load = doneLoad(x, 4, 0, 20);
        for (int k = 0; k < 4; k++) {
            Check.due("byte " + k, x.source(load, k), k);
        }
    }

    @Sentence(in = SOURCE, says = "a store's number, or NONE for memory or the buffer.")
    static void sourceIsAStoresNumberOrNone(LoadStoreRows x) {
        int buffered = bufferedStore(x, 1, 20, 1);
        int store = store(x, 1, 21, 2);
        int load = doneLoad(x, 4, 0, 20);
        Check.due("the buffer's " + buffered, x.source(load, 0), NONE);
        Check.due("a store's", x.source(load, 1), store);
        Check.due("memory's", x.source(load, 2), NONE);
        LoadStoreRows y = new LoadStoreRows();
        store(y, 1, 20, 1);
        Check.due("a store with number 0", y.source(doneLoad(y, 1, 0, 20), 0), 0);
    }

    @Sentence(in = SOURCE, says = "IllegalArgumentException, when it is none such;")
    static void noneSuchHasASource(LoadStoreRows x) {
        int load = load(x, 1, 0, 20);
        int store = store(x, 1, 20, 1);
        int fence = fence(x);
        int exchange = exchange(x, 1, 20, 1);
        for (int op : new int[] {load, store, fence, exchange}) {
            Check.throwsArgument(op + " waits", () -> x.source(op, 0));
            Check.throwsArgument(op + " waits, no byte", () -> x.source(op, 4));
        }
        x.tried(load);
        x.other(20, 1);
        Check.throwsArgument("undone", () -> x.source(load, 0));
        x.tried(load);
        x.leave();
        Check.throwsArgument("a load that left", () -> x.source(load, 0));
        Check.throwsArgument("a load that left, no byte", () -> x.source(load, -1));
        x.leave();
        x.drain();
        x.leave();
        x.leave();
        Check.throwsArgument("an exchange that left", () -> x.source(exchange, 0));
    }

    @Sentence(in = SOURCE, says = "IllegalStateException, when it has no byte k.")
    static void thereIsNoByteK(LoadStoreRows x) {
        for (int bytes : new int[] {1, 2, 4}) {
            int load = doneLoad(x, bytes, 0, 20);
            Check.due("the last byte of " + bytes, x.source(load, bytes - 1), NONE);
            for (int k : new int[] {-1, bytes, bytes + 1, 4, Integer.MIN_VALUE, Integer.MAX_VALUE}) {
                Check.throwsState("byte " + k + " of " + bytes, () -> x.source(load, k));
            }
        }
    }

    // Promise 8: leave

    @Sentence(in = LEAVE, says = "The oldest op leaves, if it may: its number, or NONE.")
    static void leaveAnswersItsNumberOrNone(LoadStoreRows x) {
        Check.due("none waits", x.leave(), NONE);
        fence(x);
        Check.due("a fence", x.leave(), 0);
        Check.due("none waits any more", x.leave(), NONE);
        load(x, 1, 0, 20);
        String before = allCounts(x);
        Check.due("it may not", x.leave(), NONE);
        Check.due("nothing is changed", allCounts(x), before);
        x.tried(1);
        Check.due("a load", x.leave(), 1);
        store(x, 1, 20, 1);
        Check.due("a store", x.leave(), 2);
        x.drain();
        exchange(x, 1, 20, 1);
        Check.due("an exchange", x.leave(), 3);
        fence(x);
        x.forget(4);
        Check.due("what was forgotten does not leave", x.leave(), NONE);
        fencesThatLeft(x, 130);
        fence(x);
        Check.due("a number past all rows", x.leave(), 134);
    }

    // Promise 9: drain

    @Sentence(in = DRAIN, says = "Drains one: the number of the store,")
    static void drainAnswersTheStoresNumber(LoadStoreRows x) {
        fencesThatLeft(x, 3);
        bufferedStore(x, 1, 20, 1);
        doneLoad(x, 1, 0, 20);
        x.leave();
        bufferedStore(x, 1, 20, 2);
        Check.due("the first store", x.drain(), 3);
        Check.due("one drained", x.count(2), 1);
        Check.due("the second one", x.drain(), 5);
    }

    @Sentence(in = DRAIN, says = "Drains one: the number of the store,")
    static void aStoreMayStayInTheBufferForLong(LoadStoreRows x) {
        bufferedStore(x, 2, 20, 0x0102);
        for (int i = 1; i <= 120; i++) {
            doneLoad(x, 1, 0, 30);
            x.leave();
        }
        for (int i = 121; i < 129; i++) {
            x.op(LOAD, 1, 0);
        }
        Check.due("128 came behind it", x.drain(), 0);
        memoryIs("its bytes", x, 20, 1, 2);
    }

    @Sentence(in = DRAIN, says = "or NONE when the buffer is empty.")
    static void drainOfAnEmptyBuffer(LoadStoreRows x) {
        Check.due("new", x.drain(), NONE);
        store(x, 1, 20, 1);
        Check.due("a store that waits", x.drain(), NONE);
        x.leave();
        Check.due("a store that left", x.drain(), 0);
        Check.due("drained", x.drain(), NONE);
        Check.due("the buffer is empty", x.count(2), 0);
        bufferedStore(x, 1, 3072, 1);
        Check.due("a device's store was never in it", x.drain(), NONE);
    }

    // Promise 10: other

    @Sentence(in = OTHER, says = "Another one writes a byte of memory")
    static void otherWritesOneByte(LoadStoreRows x) {
        for (int at : new int[] {1, 20, 3071, 3072, 4094}) {
            Check.due("at " + at, x.other(at, 200), 0);
            Check.due("it is there", x.memory(at), 200);
        }
        memoryIs("not beside it", x, 19, 0, 200, 0);
        x.other(20, 0);
        Check.due("0 again", x.memory(20), 0);
    }

    @Sentence(in = OTHER, says = "(what is in the buffer stays):")
    static void otherLeavesTheBuffer(LoadStoreRows x) {
        bufferedStore(x, 1, 20, 5);
        x.other(20, 9);
        Check.due("memory", x.memory(20), 9);
        Check.due("the buffer", x.count(2), 1);
        Check.due("a load has the buffer's byte", x.loaded(doneLoad(x, 1, 0, 20)), 5);
        Check.due("the store drains", x.drain(), 0);
        Check.due("over it", x.memory(20), 5);
    }

    @Sentence(in = OTHER, says = "how many loads are undone.")
    static void otherAnswersHowManyAreUndone(LoadStoreRows x) {
        for (int loads : new int[] {0, 1, 2, 32}) {
            LoadStoreRows y = new LoadStoreRows();
            for (int i = 0; i < loads; i++) {
                doneLoad(y, 1, 0, i == 0 ? 20 : 30);
            }
            Check.due("undone of " + loads, y.other(20, 1), loads);
            Check.due("undone so far", y.count(4), loads);
            Check.due("once", y.other(20, 1), 0);
        }
    }

    @Sentence(in = OTHER, says = "IllegalArgumentException, when there is no such byte,")
    static void otherOfNoSuchByte(LoadStoreRows x) {
        doneLoad(x, 1, 0, 0);
        for (int at : new int[] {-1, 4096, 8192, -4096, Integer.MIN_VALUE, Integer.MAX_VALUE}) {
            Check.throwsArgument("at " + at, () -> x.other(at, 1));
        }
        memoryIs("nothing is written", x, 0, 0);
        memoryIs("nothing is written", x, 4095, 0);
        Check.due("no load is undone", x.count(4), 0);
        Check.due("byte 0", x.other(0, 1), 1);
        Check.due("byte 4095", x.other(4095, 1), 0);
    }

    @Sentence(in = OTHER, says = "or v is not 0 .. 255.")
    static void otherOfNoByte(LoadStoreRows x) {
        x.other(20, 7);
        doneLoad(x, 1, 0, 20);
        for (int v : new int[] {-1, 256, 257, -256, Integer.MIN_VALUE, Integer.MAX_VALUE}) {
            Check.throwsArgument("v " + v, () -> x.other(20, v));
        }
        Check.due("nothing is written", x.memory(20), 7);
        Check.due("no load is undone", x.count(4), 0);
        for (int v : new int[] {0, 1, 127, 128, 255}) {
            x.other(20, v);
            Check.due("v " + v, x.memory(20), v);
        }
    }

    // Promise 11: memory

    @Sentence(in = MEMORY, says = "A byte of memory.")
    static void memoryIsThatOfMemoryAlone(LoadStoreRows x) {
        store(x, 1, 20, 200);
        Check.due("a store that waits", x.memory(20), 0);
        x.leave();
        Check.due("a store in the buffer", x.memory(20), 0);
        x.drain();
        Check.due("a store that drained", x.memory(20), 200);
        doneLoad(x, 1, 0, 20);
        x.memory(20);
        Check.due("asking undoes none", x.count(3), 1);
    }

    @Sentence(in = MEMORY, says = "IllegalArgumentException, when there is none.")
    static void memoryOfNoByte(LoadStoreRows x) {
        for (int at : new int[] {-1, 4096, 4097, 8192, -4096, Integer.MIN_VALUE, Integer.MAX_VALUE}) {
            Check.throwsArgument("at " + at, () -> x.memory(at));
        }
        Check.due("byte 0", x.memory(0), 0);
        Check.due("byte 4095", x.memory(4095), 0);
    }

    // Promise 12: forget

    @Sentence(in = FORGET, says = "All ops from one on that wait go,")
    static void allFromOneOnGo(LoadStoreRows x) {
        int store = bufferedStore(x, 1, 20, 1);
        int kept = load(x, 1, 0, 20);
        int first = fence(x);
        int last = x.op(STORE, 1, 0);
        x.forget(first);
        Check.throwsIndex("the first is gone", () -> x.forget(first));
        Check.throwsIndex("the last is gone", () -> x.address(last, 20));
        Check.due("one waits", x.count(1), 1);
        Check.due("it keeps its address", x.tried(kept), 1);
        x.forget(kept);
        Check.due("none waits", x.count(9), NONE);
        Check.due("what left stays", x.drain(), store);
    }

    @Sentence(in = FORGET, says = "as if they had not come")
    static void nothingOfTheForgottenIsLeft(LoadStoreRows x) {
        int load = load(x, 4, 0, 20);
        x.forget(store(x, 4, 20, -1));
        Check.due("no byte of a forgotten store", x.tried(doneAfter(x, load)), 1);
        Check.due("loaded", x.loaded(load + 1), 0);
        x.forget(load);
        fence(x);
        x.forget(0);
        Check.due("no forgotten fence holds back", x.tried(load(x, 1, 0, 20)), 1);
        Check.due("done that wait", x.count(3), 1);
        x.forget(0);
        Check.due("no forgotten load is done", x.count(3), 0);
        Check.due("or undone", x.other(20, 1), 0);
        Check.due("or wrong", x.count(5), 0);
        mark(x, 5);
        x.op(STORE, 1, 0);
        x.forget(0);
        fence(x);
        Check.due("leaves", x.leave(), 0);
        Check.due("no forgotten store keeps a marked load", x.tried(load(x, 1, 5, 20)), 1);
    }

    private static int doneAfter(LoadStoreRows x, int op) {
        Check.due("its number", load(x, 4, 0, 20), op + 1);
        return op + 1;
    }

    @Sentence(in = FORGET, says = "as if they had not come")
    static void theForgottenDoNotComeBehindOthers(LoadStoreRows x) {
        x.other(20, 7);
        doneLoad(x, 1, 0, 20);
        x.leave();
        fencesThatLeft(x, 63);
        for (int i = 0; i < 32; i++) {
            x.op(STORE, 4, 0);
        }
        Check.throwsUnsupported("32 wait", () -> fence(x));
        Check.throwsState("95 came behind it", () -> x.loaded(0));
        Check.due("forgotten", x.forget(64), 32);
        Check.due("63 came behind it", x.loaded(0), 7);
        Check.due("room for 32 again", fence(x), 64);
        Check.throwsState("64 came behind it", () -> x.loaded(0));
    }

    @Sentence(in = FORGET, says = "as if they had not come")
    static void whatWasCountedSoFarStays(LoadStoreRows x) {
        // 'so far' is read as: also by those that were forgotten since
        store(x, 1, 20, 1);
        int late = x.op(STORE, 1, 0);
        doneLoad(x, 2, 12, 20);
        x.address(late, 20);
        x.forget(0);
        counts("forgotten", x, 0, 0, 0, 0, 1, 1, 1, 1, 1, NONE);
    }

    @Sentence(in = FORGET, says = "(their numbers are given anew;")
    static void theirNumbersAreGivenAnew(LoadStoreRows x) {
        fencesThatLeft(x, 2);
        for (int kind : new int[] {STORE, LOAD, EXCHANGE, FENCE}) {
            int op = told(x, kind, kind == FENCE ? 0 : 1, 20, 1);
            Check.due("the number of kind " + kind, op, 2);
            if (kind == LOAD) {
                x.tried(op);
            }
            x.forget(op);
            Check.due("ops so far", x.count(0), 2);
            Check.due("given anew", x.op(EXCHANGE, 2, 0), 2);
            Check.throwsArgument("not done", () -> x.loaded(2));
            Check.due("no number", x.number(2, 1), 2);
            Check.due("no address", x.address(2, 30), 0);
            x.forget(2);
            Check.due("given anew", x.op(LOAD, 2, 0), 2);
            Check.throwsArgument("no address", () -> x.tried(2));
            Check.throwsArgument("no source", () -> x.source(2, 0));
            x.forget(2);
        }
    }

    @Sentence(in = FORGET, says = "marks stay):")
    static void marksStay(LoadStoreRows x) {
        int store = x.op(STORE, 1, 0);
        doneLoad(x, 1, 12, 20);
        x.address(store, 20);
        x.forget(store);
        Check.due("marked", x.marked(12), true);
        Check.due("marks", x.count(8), 1);
        x.op(STORE, 1, 0);
        Check.due("kept by it", x.tried(load(x, 1, 12, 30)), 3);
    }

    @Sentence(in = FORGET, says = "how many.")
    static void forgetAnswersHowMany(LoadStoreRows x) {
        fencesThatLeft(x, 1);
        for (int i = 1; i <= 32; i++) {
            fence(x);
        }
        Check.due("the last", x.forget(32), 1);
        Check.due("two", x.forget(30), 2);
        Check.due("all that wait", x.forget(1), 29);
        for (int i = 1; i <= 32; i++) {
            Check.due("comes", fence(x), i);
        }
        Check.due("32", x.forget(1), 32);
        Check.throwsIndex("none waits", () -> x.forget(1));
    }

    @Sentence(in = FORGET, says = "IllegalArgumentException, when it does not wait.")
    static void noOpThatLeftIsForgotten(LoadStoreRows x) {
        bufferedStore(x, 1, 20, 1);
        Check.throwsArgument("in the buffer", () -> x.forget(0));
        x.drain();
        Check.throwsArgument("in memory", () -> x.forget(0));
        fencesThatLeft(x, 1);
        fence(x);
        Check.throwsArgument("the youngest that left", () -> x.forget(1));
        Check.due("the one that waits stays", x.count(1), 1);
        Check.due("the oldest that waits", x.forget(2), 1);
        fencesThatLeft(x, 127);
        fence(x);
        Check.throwsArgument("one of 128 before", () -> x.forget(1));
        Check.due("it waits still", x.count(9), 129);
    }

    // Promise 13: marked

    @Sentence(in = MARKED, says = "Whether a program place is marked.")
    static void markedByTheLowestSixBits(LoadStoreRows x) {
        mark(x, 31);
        mark(x, -64);
        for (int program = -70; program < 135; program++) {
            boolean due = program % 64 == 0 || Math.floorMod(program, 64) == 31;
            Check.due("marked(" + program + ")", x.marked(program), due);
        }
        Check.due("the lowest int", x.marked(Integer.MIN_VALUE), true);
        Check.due("the highest int", x.marked(Integer.MAX_VALUE), false);
        Check.due("asking marks none", x.count(8), 2);
    }

    // Promise 14: count

    @Sentence(in = COUNT, says = "Ops so far (0),")
    static void countOfOpsSoFar(LoadStoreRows x) {
        fencesThatLeft(x, 130);
        Check.due("left", x.count(0), 130);
        fence(x);
        Check.due("waits", x.count(0), 131);
        Check.throwsArgument("refused", () -> x.op(9, 0, 0));
        Check.due("refused", x.count(0), 131);
        x.forget(130);
        Check.due("forgotten", x.count(0), 130);
    }

    @Sentence(in = COUNT, says = "waiting (1),")
    static void countOfWaiting(LoadStoreRows x) {
        Check.due("none", x.count(1), 0);
        for (int i = 1; i <= 32; i++) {
            fence(x);
            Check.due("come", x.count(1), i);
        }
        for (int i = 31; i >= 0; i--) {
            x.leave();
            Check.due("left", x.count(1), i);
        }
        fence(x);
        x.forget(32);
        Check.due("forgotten", x.count(1), 0);
    }

    @Sentence(in = COUNT, says = "in the buffer (2),")
    static void countOfTheBuffer(LoadStoreRows x) {
        for (int i = 1; i <= 4; i++) {
            bufferedStore(x, 1, 20, 1);
            Check.due("left", x.count(2), i);
        }
        for (int i = 3; i >= 0; i--) {
            x.drain();
            Check.due("drained", x.count(2), i);
        }
        x.drain();
        Check.due("empty", x.count(2), 0);
    }

    @Sentence(in = COUNT, says = "loads done that wait (3),")
    static void countOfLoadsDone(LoadStoreRows x) {
        for (int i = 1; i <= 32; i++) {
            doneLoad(x, 1, 0, i);
            Check.due("done", x.count(3), i);
        }
        x.leave();
        Check.due("left", x.count(3), 31);
        x.other(30, 1);
        Check.due("undone", x.count(3), 28);
        x.forget(20);
        Check.due("forgotten", x.count(3), 19);
        load(x, 1, 0, 5);
        Check.due("not tried", x.count(3), 19);
    }

    @Sentence(in = COUNT, says = "undone so far (4),")
    static void countOfUndone(LoadStoreRows x) {
        int store = x.op(STORE, 1, 0);
        int first = doneLoad(x, 1, 0, 20);
        int second = doneLoad(x, 1, 1, 30);
        x.address(store, 20);
        Check.due("by a store", x.count(4), 2);
        x.number(store, 1);
        x.tried(second);
        x.tried(first);
        x.other(30, 1);
        Check.due("and by another one", x.count(4), 3);
        x.leave();
        x.leave();
        Check.due("so far", x.count(4), 3);
    }

    @Sentence(in = COUNT, says = "wrong ones so far (5),")
    static void countOfWrongOnes(LoadStoreRows x) {
        int store = x.op(STORE, 1, 0);
        int first = doneLoad(x, 1, 0, 20);
        doneLoad(x, 1, 1, 20);
        x.address(store, 20);
        Check.due("one, though two are undone", x.count(5), 1);
        x.number(store, 1);
        x.leave();
        x.drain();
        x.tried(first);
        x.other(20, 1);
        Check.due("and by another one", x.count(5), 2);
        x.other(20, 1);
        Check.due("none wrong", x.count(5), 2);
    }

    @Sentence(in = COUNT, says = "loads' bytes from stores so far (6),")
    static void countOfBytesFromStores(LoadStoreRows x) {
        bufferedStore(x, 1, 20, 1);
        store(x, 1, 21, 1);
        int load = doneLoad(x, 4, 0, 20);
        Check.due("one of four", x.count(6), 1);
        x.other(23, 1);
        Check.due("undone", x.count(6), 1);
        x.tried(load);
        Check.due("again", x.count(6), 2);
        x.drain();
        x.leave();
        Check.due("so far", x.count(6), 2);
    }

    @Sentence(in = COUNT, says = "from the buffer or memory (7;")
    static void countOfBytesFromTheBufferOrMemory(LoadStoreRows x) {
        bufferedStore(x, 1, 20, 1);
        store(x, 1, 21, 1);
        int load = doneLoad(x, 4, 0, 20);
        Check.due("one of the buffer's, two of memory's", x.count(7), 3);
        x.other(23, 1);
        x.tried(load);
        Check.due("again", x.count(7), 6);
        x.drain();
        x.leave();
        x.drain();
        exchange(x, 1, 20, 1);
        x.leave();
        x.leave();
        Check.due("an exchange is no load", x.count(7), 6);
    }

    @Sentence(in = COUNT, says = "both of tries that answered 1),")
    static void countOfBytesIsOfTriesThatAnswered1(LoadStoreRows x) {
        store(x, 1, 20, 1);
        int noNumber = x.op(STORE, 1, 0);
        x.address(noNumber, 22);
        int load = load(x, 4, 0, 20);
        Check.due("it has no number", x.tried(load), 4);
        Check.due("none from stores", x.count(6), 0);
        Check.due("none from memory", x.count(7), 0);
        x.number(noNumber, 2);
        x.tried(load);
        Check.due("from stores", x.count(6), 2);
        Check.due("from memory", x.count(7), 2);
        Check.throwsArgument("done", () -> x.tried(load));
        Check.due("from stores still", x.count(6), 2);
        Check.due("from memory still", x.count(7), 2);
        fence(x);
        Check.due("behind a fence", x.tried(load(x, 1, 0, 20)), 2);
        Check.due("from both still", x.count(6) + x.count(7), 4);
    }

    @Sentence(in = COUNT, says = "marks (8),")
    static void countOfMarks(LoadStoreRows x) {
        Check.due("none", x.count(8), 0);
        mark(x, 0);
        Check.due("one", x.count(8), 1);
        mark(x, 63);
        Check.due("two", x.count(8), 2);
        int store = x.op(STORE, 1, 0);
        x.address(store, 40);
        int late = x.op(STORE, 1, 0);
        Check.due("a marked load waits", x.tried(load(x, 1, 64, 20)), 3);
        x.address(late, 20);
        Check.due("two still", x.count(8), 2);
    }

    @Sentence(in = COUNT, says = "marks (8),")
    static void aPlaceIsMarkedOnce(LoadStoreRows x) {
        int first = x.op(STORE, 1, 0);
        int second = x.op(STORE, 1, 0);
        doneLoad(x, 1, 5, 20);
        doneLoad(x, 1, 5 + 64, 30);
        Check.due("the younger one is wrong", x.address(first, 30), 1);
        Check.due("one mark", x.count(8), 1);
        Check.due("the older one is wrong", x.address(second, 20), 1);
        Check.due("the same mark", x.count(8), 1);
        Check.due("two wrong ones", x.count(5), 2);
    }

    @Sentence(in = COUNT, says = "the oldest that waits (9; NONE).")
    static void countOfTheOldest(LoadStoreRows x) {
        Check.due("none came", x.count(9), NONE);
        fence(x);
        Check.due("0 is the oldest", x.count(9), 0);
        fence(x);
        Check.due("0 still", x.count(9), 0);
        x.leave();
        Check.due("1 is", x.count(9), 1);
        x.leave();
        Check.due("none waits", x.count(9), NONE);
        fence(x);
        x.forget(2);
        Check.due("none waits again", x.count(9), NONE);
    }

    @Sentence(in = COUNT, says = "NONE for another what.")
    static void countOfAnotherWhat(LoadStoreRows x) {
        fence(x);
        for (int what : new int[] {-1, 10, 11, 64, -9, Integer.MIN_VALUE, Integer.MAX_VALUE}) {
            Check.due("count(" + what + ")", x.count(what), NONE);
        }
    }
}
