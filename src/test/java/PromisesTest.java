/** Each promise of the document by hand, in longer runs: ordinary inputs, the edges that it names, wrong inputs. */
public final class PromisesTest extends Scene {
    public static void main(String[] args) {
        newObject();
        op();
        opFull();
        address();
        addressRange();
        addressUndoes();
        addressMissesOnlyOlderSources();
        addressAfterTheSourceLeft();
        number();
        triedArguments();
        triedHeldBack();
        triedDevice();
        triedMarked();
        triedWithoutNumber();
        triedTakesTheNewest();
        loaded();
        loadedKept();
        loadedAgainAfterForget();
        source();
        leaveLoadsAndStores();
        leaveFence();
        leaveExchange();
        leaveDevice();
        drain();
        bufferOutlivesManyOps();
        other();
        otherSparesTheBuffer();
        memory();
        forget();
        forgetKeepsMarksAndCounts();
        marked();
        count();
        manyCalls();
        oldOpsAreNotMistakenForNewOnes();
        Check.end();
    }

    private static void newObject() {
        LoadStoreRows x = new LoadStoreRows();
        counts("new", x, 0, 0, 0, 0, 0, 0, 0, 0, 0, NONE);
        Check.due("new leave", x.leave(), NONE);
        Check.due("new drain", x.drain(), NONE);
        LoadStoreRows fresh = x;
        for (int at = 0; at < 4096; at++) {
            // nothing is promised behind an object's 512th call
            fresh = at % 500 == 0 ? new LoadStoreRows() : fresh;
            Check.due("new memory " + at, fresh.memory(at), 0);
        }
        for (int program = 0; program < 64; program++) {
            Check.due("new marked " + program, x.marked(program), false);
        }
        Check.throwsIndex("new tried", () -> x.tried(0));
        LoadStoreRows y = new LoadStoreRows();
        y.other(3, 7);
        y.op(FENCE, 0, 0);
        Check.due("objects share no memory", x.memory(3), 0);
        Check.due("objects share no ops", x.count(0), 0);
    }

    private static void op() {
        LoadStoreRows x = new LoadStoreRows();
        Check.due("load", x.op(LOAD, 1, Integer.MIN_VALUE), 0);
        Check.due("store", x.op(STORE, 2, Integer.MAX_VALUE), 1);
        Check.due("fence", x.op(FENCE, 0, -1), 2);
        Check.due("exchange", x.op(EXCHANGE, 4, 0), 3);
        Check.throwsArgument("kind -1", () -> x.op(-1, 1, 0));
        Check.throwsArgument("kind 4", () -> x.op(4, 1, 0));
        Check.throwsArgument("kind 4 without bytes", () -> x.op(4, 0, 0));
        for (int kind : new int[] {LOAD, STORE, EXCHANGE}) {
            for (int bytes : new int[] {-4, -1, 0, 3, 5, 8, Integer.MIN_VALUE, Integer.MAX_VALUE}) {
                Check.throwsArgument("kind " + kind + " bytes " + bytes, () -> x.op(kind, bytes, 0));
            }
        }
        for (int bytes : new int[] {-1, 1, 2, 4}) {
            Check.throwsArgument("fence of " + bytes, () -> x.op(FENCE, bytes, 0));
        }
        Check.due("refused ones did not come", x.count(0), 4);
    }

    private static void opFull() {
        LoadStoreRows x = new LoadStoreRows();
        for (int i = 0; i < 32; i++) {
            Check.due("op " + i, x.op(FENCE, 0, 0), i);
        }
        Check.throwsUnsupported("33rd", () -> x.op(FENCE, 0, 0));
        Check.throwsArgument("33rd and no kind", () -> x.op(7, 1, 0));
        Check.throwsArgument("33rd and no size", () -> x.op(LOAD, 3, 0));
        Check.due("a fence leaves", x.leave(), 0);
        Check.due("room again", x.op(LOAD, 1, 0), 32);
        Check.throwsUnsupported("full again", () -> x.op(LOAD, 1, 0));
    }

    private static void address() {
        LoadStoreRows x = new LoadStoreRows();
        x.op(LOAD, 1, 0);
        x.op(FENCE, 0, 0);
        x.op(STORE, 1, 0);
        Check.throwsIndex("no op 3", () -> x.address(3, 0));
        Check.throwsIndex("no op -1", () -> x.address(-1, -1));
        Check.throwsArgument("a fence", () -> x.address(1, 0));
        Check.due("load", x.address(0, 9), 0);
        Check.throwsArgument("load again", () -> x.address(0, 9));
        Check.due("store", x.address(2, 9), 0);
        Check.throwsArgument("store again", () -> x.address(2, 10));
        x.tried(0);
        x.leave();
        Check.throwsArgument("left", () -> x.address(0, 9));
    }

    private static void addressRange() {
        for (int kind : new int[] {LOAD, STORE, EXCHANGE}) {
            for (int bytes : new int[] {1, 2, 4}) {
                LoadStoreRows x = new LoadStoreRows();
                int op = x.op(kind, bytes, 0);
                String who = "kind " + kind + " of " + bytes + " at ";
                for (int at : new int[] {-1, 4097 - bytes, 4096, Integer.MIN_VALUE, Integer.MAX_VALUE}) {
                    Check.throwsArgument(who + at, () -> x.address(op, at));
                }
                for (int at = 3073 - bytes; at < 3072; at++) {
                    int partly = at;
                    Check.throwsArgument(who + at, () -> x.address(op, partly));
                }
                for (int at : new int[] {0, 3072 - bytes, 3072, 4096 - bytes}) {
                    Check.due(who + at, x.address(x.op(kind, bytes, 0), at), 0);
                }
                Check.due(who + "5 after refusals", x.address(op, 5), 0);
            }
        }
    }

    private static void addressUndoes() {
        LoadStoreRows x = new LoadStoreRows();
        int before = load(x, 1, 1, 100);
        int late = x.op(STORE, 2, 0);
        int beside = load(x, 1, 2, 102);
        int first = load(x, 4, 67, 98);
        int notTried = load(x, 1, 5, 100);
        int second = load(x, 1, 4, 500);
        for (int op : new int[] {before, beside, first, second}) {
            Check.due("try " + op, x.tried(op), 1);
        }
        Check.due("two undone", x.address(late, 100), 2);
        counts("undone", x, 6, 6, 0, 2, 2, 1, 0, 7, 1, 0);
        Check.due("only the wrong one's place is marked", x.marked(3), true);
        Check.throwsArgument("before stays done", () -> x.tried(before));
        Check.throwsArgument("beside stays done", () -> x.tried(beside));
        Check.due("first waits for the number", x.tried(first), 4);
        Check.due("not tried waits for the number", x.tried(notTried), 4);
        Check.throwsArgument("first is not done", () -> x.loaded(first));
        x.number(late, 0x1234);
        Check.due("first again", x.tried(first), 1);
        Check.due("first loaded", x.loaded(first), 0x1234);
        Check.due("second again", x.tried(second), 1);
    }

    private static void addressMissesOnlyOlderSources() {
        LoadStoreRows x = new LoadStoreRows();
        int oldStore = store(x, 1, 10, 1);
        int middle = x.op(STORE, 1, 0);
        int newStore = store(x, 2, 10, 0x0203);
        int load = load(x, 2, 0, 10);
        x.tried(load);
        Check.due("from the newest", x.source(load, 0), newStore);
        Check.due("hidden behind a newer store", x.address(middle, 10), 0);
        Check.due("still done", x.loaded(load), 0x0203);
        Check.due("nothing wrong", x.count(5), 0);
        Check.due("nothing marked", x.count(8), 0);

        LoadStoreRows y = new LoadStoreRows();
        oldStore = store(y, 1, 10, 1);
        middle = y.op(STORE, 1, 0);
        load = load(y, 1, 0, 10);
        y.tried(load);
        Check.due("from the old store", y.source(load, 0), oldStore);
        Check.due("the old store is older", y.address(middle, 10), 1);
        Check.due("op 0 may be the source too", y.count(5), 1);
    }

    private static void addressAfterTheSourceLeft() {
        LoadStoreRows x = new LoadStoreRows();
        int early = store(x, 1, 10, 1);
        int late = x.op(STORE, 1, 0);
        int load = load(x, 1, 9, 10);
        x.tried(load);
        x.leave();
        x.drain();
        Check.due("source is kept", x.source(load, 0), early);
        Check.due("wrong all the same", x.address(late, 10), 1);
        Check.due("marked", x.marked(9), true);

        LoadStoreRows y = new LoadStoreRows();
        store(y, 1, 10, 1);
        late = y.op(STORE, 1, 0);
        load = load(y, 1, 9, 10);
        y.leave();
        y.tried(load);
        Check.due("from the buffer", y.loaded(load), 1);
        Check.due("the buffer is older", y.address(late, 10), 1);
    }

    private static void number() {
        LoadStoreRows x = new LoadStoreRows();
        x.op(STORE, 1, 0);
        x.op(STORE, 2, 0);
        x.op(EXCHANGE, 4, 0);
        x.op(LOAD, 1, 0);
        x.op(FENCE, 0, 0);
        Check.throwsIndex("no op 5", () -> x.number(5, 0));
        Check.throwsIndex("no op -1", () -> x.number(-1, 0));
        Check.throwsArgument("load", () -> x.number(3, 0));
        Check.throwsArgument("fence", () -> x.number(4, 0));
        Check.due("store of 1", x.number(0, -1), 1);
        Check.due("store of 2", x.number(1, 0xABCDEF), 2);
        Check.due("exchange of 4", x.number(2, Integer.MIN_VALUE), 4);
        Check.throwsArgument("again", () -> x.number(0, -1));
        x.address(0, 20);
        x.address(1, 21);
        x.leave();
        Check.throwsArgument("left", () -> x.number(0, 1));
        x.leave();
        x.drain();
        x.drain();
        Check.due("lowest byte", x.memory(20), 255);
        Check.due("highest of two first", x.memory(21), 0xCD);
        Check.due("lowest of two last", x.memory(22), 0xEF);
        Check.due("no third byte", x.memory(23), 0);
    }

    private static void triedArguments() {
        LoadStoreRows x = new LoadStoreRows();
        int load = x.op(LOAD, 1, 0);
        int store = store(x, 1, 3, 3);
        int fence = x.op(FENCE, 0, 0);
        int exchange = exchange(x, 1, 3, 3);
        Check.throwsIndex("none", () -> x.tried(4));
        Check.throwsIndex("negative", () -> x.tried(Integer.MIN_VALUE));
        Check.throwsArgument("no address", () -> x.tried(load));
        Check.throwsArgument("store", () -> x.tried(store));
        Check.throwsArgument("fence", () -> x.tried(fence));
        Check.throwsArgument("exchange", () -> x.tried(exchange));
        x.address(load, 3);
        Check.due("younger ones do not matter", x.tried(load), 1);
        Check.throwsArgument("done", () -> x.tried(load));
        x.leave();
        Check.throwsArgument("left", () -> x.tried(load));
    }

    private static void triedHeldBack() {
        for (int kind : new int[] {FENCE, EXCHANGE}) {
            LoadStoreRows x = new LoadStoreRows();
            int before = load(x, 1, 0, 1);
            int wall = x.op(kind, kind == FENCE ? 0 : 2, 0);
            int store = x.op(STORE, 1, 0);
            x.address(store, 1);
            int behind = load(x, 1, 0, 1);
            Check.due("behind " + kind, x.tried(behind), 2);
            Check.due("before " + kind, x.tried(before), 1);
            x.leave();
            Check.due("oldest is " + kind, x.tried(behind), 2);
            if (kind == EXCHANGE) {
                x.address(wall, 600);
                x.number(wall, 1);
            }
            Check.due("leaves", x.leave(), wall);
            Check.due("then the number", x.tried(behind), 4);
            counts("held back", x, 4, 2, 0, 0, 0, 0, 0, 1, 0, store);
        }
    }

    private static void triedDevice() {
        LoadStoreRows x = new LoadStoreRows();
        int first = load(x, 4, 0, 3072);
        int second = load(x, 1, 0, 4095);
        int plain = load(x, 1, 0, 3071);
        Check.due("device's and not the oldest", x.tried(second), 2);
        Check.due("3071 is none", x.tried(plain), 1);
        Check.due("device's and the oldest", x.tried(first), 1);
        x.leave();
        Check.due("now the oldest", x.tried(second), 1);

        LoadStoreRows y = new LoadStoreRows();
        store(y, 1, 5, 5);
        int load = load(y, 1, 0, 3080);
        int other = load(y, 1, 0, 6);
        y.leave();
        Check.due("the buffer is not empty", y.tried(load), 2);
        Check.due("no device's", y.tried(other), 1);
        y.drain();
        Check.due("the buffer is empty", y.tried(load), 1);
    }

    private static void triedMarked() {
        LoadStoreRows x = new LoadStoreRows();
        int store = x.op(STORE, 1, 0);
        int load = load(x, 1, 130, 7);
        Check.due("goes ahead", x.tried(load), 1);
        Check.due("was wrong", x.address(store, 7), 1);
        x.number(store, 1);
        Check.due("all known", x.tried(load), 1);
        int unknownLoad = x.op(LOAD, 1, 0);
        int behindLoad = load(x, 1, 2, 7);
        Check.due("a load's address does not matter", x.tried(behindLoad), 1);
        x.forget(unknownLoad);
        int unknown = x.op(STORE, 1, 0);
        int sameMark = load(x, 1, 2, 7);
        int otherMark = load(x, 1, 3, 7);
        Check.due("marked by its lowest six bits", x.tried(sameMark), 3);
        Check.due("not marked", x.tried(otherMark), 1);
        Check.due("no load is undone elsewhere", x.address(unknown, 8), 0);
        Check.due("known now", x.tried(sameMark), 1);
        int noNumber = x.op(STORE, 1, 0);
        x.address(noNumber, 7);
        int blind = x.op(STORE, 1, 0);
        int marked = load(x, 1, 2, 7);
        Check.due("3 ahead of 4", x.tried(marked), 3);
        x.op(STORE, 1, 0);
        x.address(blind, 9);
        Check.due("a younger store does not matter", x.tried(marked), 4);
        int wall = x.op(FENCE, 0, 0);
        int walled = load(x, 1, 2, 7);
        Check.due("2 ahead of 3", x.tried(walled), 2);
        x.forget(wall);
    }

    private static void triedWithoutNumber() {
        LoadStoreRows x = new LoadStoreRows();
        int older = x.op(STORE, 2, 0);
        int newer = store(x, 1, 51, 9);
        x.address(older, 50);
        int half = load(x, 1, 0, 51);
        int whole = load(x, 2, 0, 50);
        int beside = load(x, 1, 0, 52);
        Check.due("the newest has one", x.tried(half), 1);
        Check.due("one byte has none", x.tried(whole), 4);
        Check.due("no store has it", x.tried(beside), 1);
        Check.due("nothing counted for 4", x.count(6) + x.count(7), 2);
        x.number(older, 0x0708);
        Check.due("all have one", x.tried(whole), 1);
        Check.due("of both", x.loaded(whole), 0x0709);
        Check.due("source of the first", x.source(whole, 0), older);
        Check.due("source of the second", x.source(whole, 1), newer);
    }

    private static void triedTakesTheNewest() {
        LoadStoreRows x = new LoadStoreRows();
        for (int at = 60; at < 64; at++) {
            x.other(at, 0xA0 + at - 60);
        }
        store(x, 2, 61, 0x1122);
        store(x, 1, 62, 0x33);
        x.leave();
        x.leave();
        int waiting = store(x, 1, 63, 0x44);
        int load = load(x, 4, 0, 60);
        store(x, 4, 60, -1);
        Check.due("try", x.tried(load), 1);
        Check.due("memory, buffer, newer buffer, store", x.loaded(load), 0xA0113344);
        Check.due("source memory", x.source(load, 0), NONE);
        Check.due("source buffer", x.source(load, 1), NONE);
        Check.due("source newer in the buffer", x.source(load, 2), NONE);
        Check.due("source store", x.source(load, 3), waiting);
        Check.due("from stores", x.count(6), 1);
        Check.due("from elsewhere", x.count(7), 3);

        LoadStoreRows y = new LoadStoreRows();
        y.other(70, 0x66);
        y.other(73, 0x77);
        store(y, 2, 71, 0x1122);
        int waits = load(y, 4, 0, 70);
        y.tried(waits);
        Check.due("beside a store that waits", y.loaded(waits), 0x66112277);
        y.leave();
        int held = load(y, 4, 0, 70);
        y.tried(held);
        Check.due("beside a store in the buffer", y.loaded(held), 0x66112277);
    }

    private static void loaded() {
        LoadStoreRows x = new LoadStoreRows();
        x.other(0, 0xFF);
        x.other(1, 0xFE);
        x.other(2, 0xFD);
        x.other(3, 0xFC);
        int one = load(x, 1, 0, 0);
        int two = load(x, 2, 0, 0);
        int four = load(x, 4, 0, 0);
        int store = store(x, 4, 0, 5);
        int fence = x.op(FENCE, 0, 0);
        int exchange = exchange(x, 2, 0, 5);
        Check.throwsArgument("not done", () -> x.loaded(one));
        for (int op : new int[] {one, two, four}) {
            x.tried(op);
        }
        Check.due("one byte", x.loaded(one), 0xFF);
        Check.due("two bytes", x.loaded(two), 0xFFFE);
        Check.due("four bytes", x.loaded(four), 0xFFFEFDFC);
        x.leave();
        Check.due("when it left", x.loaded(one), 0xFF);
        x.other(0, 1);
        Check.due("left ones are never undone", x.loaded(one), 0xFF);
        Check.throwsArgument("undone", () -> x.loaded(two));
        Check.throwsArgument("store", () -> x.loaded(store));
        Check.throwsArgument("fence", () -> x.loaded(fence));
        Check.throwsArgument("exchange that waits", () -> x.loaded(exchange));
        Check.throwsIndex("none", () -> x.loaded(6));
        Check.throwsIndex("negative", () -> x.loaded(-1));
    }

    private static void loadedKept() {
        LoadStoreRows x = new LoadStoreRows();
        x.other(8, 77);
        load(x, 1, 0, 8);
        x.tried(0);
        x.leave();
        x.op(FENCE, 0, 0);
        x.leave();
        for (int op = 2; op < 64; op++) {
            x.op(FENCE, 0, 0);
            x.leave();
        }
        Check.due("63 behind it", x.loaded(0), 77);
        x.op(FENCE, 0, 0);
        Check.throwsState("64 behind it", () -> x.loaded(0));
        Check.throwsArgument("63 behind a fence", () -> x.loaded(1));
        x.leave();
        x.op(FENCE, 0, 0);
        Check.throwsState("state ahead of argument", () -> x.loaded(1));
        Check.throwsIndex("index ahead of state", () -> x.loaded(-1));
        Check.throwsIndex("index behind", () -> x.loaded(66));
    }

    private static void loadedAgainAfterForget() {
        LoadStoreRows x = new LoadStoreRows();
        x.other(8, 77);
        for (int op = 0; op < 64; op++) {
            load(x, 1, 0, 8);
            x.tried(op);
            x.leave();
        }
        for (int op = 64; op < 96; op++) {
            x.op(FENCE, 0, 0);
        }
        Check.throwsState("95 behind it", () -> x.loaded(0));
        Check.due("forgotten", x.forget(64), 32);
        Check.due("as if they had not come", x.loaded(0), 77);
        x.op(STORE, 4, 0);
        Check.throwsState("64 behind it", () -> x.loaded(0));
        Check.due("63 behind it", x.loaded(1), 77);
    }

    private static void source() {
        LoadStoreRows x = new LoadStoreRows();
        int store = store(x, 1, 31, 1);
        int load = load(x, 2, 0, 30);
        Check.throwsArgument("not done", () -> x.source(load, 0));
        Check.throwsArgument("argument ahead of state", () -> x.source(load, 2));
        Check.throwsArgument("store", () -> x.source(store, 0));
        x.tried(load);
        Check.due("memory", x.source(load, 0), NONE);
        Check.due("store", x.source(load, 1), store);
        Check.throwsState("no byte 2", () -> x.source(load, 2));
        Check.throwsState("no byte -1", () -> x.source(load, -1));
        Check.throwsState("no byte so far off", () -> x.source(load, Integer.MAX_VALUE));
        Check.throwsIndex("no op", () -> x.source(2, 9));
        Check.throwsIndex("negative", () -> x.source(-1, 0));
        x.leave();
        x.drain();
        Check.due("the store left", x.source(load, 1), store);
        x.leave();
        Check.throwsArgument("the load left", () -> x.source(load, 1));
        Check.throwsArgument("the load left, no byte", () -> x.source(load, 5));
    }

    private static void leaveLoadsAndStores() {
        LoadStoreRows x = new LoadStoreRows();
        int load = load(x, 1, 0, 0);
        Check.due("load not done", x.leave(), NONE);
        x.tried(load);
        Check.due("load done", x.leave(), load);
        int store = x.op(STORE, 1, 0);
        Check.due("nothing told", x.leave(), NONE);
        x.address(store, 1);
        Check.due("no number", x.leave(), NONE);
        x.number(store, 1);
        Check.due("both", x.leave(), store);
        int numberFirst = x.op(STORE, 1, 0);
        x.number(numberFirst, 2);
        Check.due("no address", x.leave(), NONE);
        x.address(numberFirst, 2);
        Check.due("both again", x.leave(), numberFirst);
        store(x, 1, 3, 3);
        store(x, 1, 4, 4);
        int fifth = store(x, 1, 5, 5);
        x.leave();
        x.leave();
        Check.due("buffer full", x.count(2), 4);
        Check.due("no room", x.leave(), NONE);
        Check.due("drained", x.drain(), store);
        Check.due("room", x.leave(), fifth);
        Check.due("none waits", x.leave(), NONE);
    }

    private static void leaveFence() {
        LoadStoreRows x = new LoadStoreRows();
        store(x, 1, 0, 1);
        int fence = x.op(FENCE, 0, 0);
        x.leave();
        Check.due("buffer not empty", x.leave(), NONE);
        x.drain();
        Check.due("buffer empty", x.leave(), fence);
    }

    private static void leaveExchange() {
        LoadStoreRows x = new LoadStoreRows();
        store(x, 2, 40, 0x8182);
        int exchange = x.op(EXCHANGE, 2, 0);
        x.leave();
        x.address(exchange, 40);
        Check.due("no number", x.leave(), NONE);
        x.number(exchange, 0x55667788);
        Check.due("buffer not empty", x.leave(), NONE);
        x.drain();
        Check.due("leaves", x.leave(), exchange);
        Check.due("loaded what memory had", x.loaded(exchange), 0x8182);
        Check.due("its own bytes", x.memory(40) * 256 + x.memory(41), 0x7788);
        Check.due("not by the buffer", x.count(2), 0);
        Check.due("no load's bytes", x.count(6) + x.count(7), 0);
        int device = exchange(x, 4, 4092, -2);
        Check.due("device's", x.leave(), device);
        Check.due("device's byte", x.memory(4095), 254);
        int again = exchange(x, 4, 4092, 0);
        x.leave();
        Check.due("of four bytes", x.loaded(again), -2);
        int noAddress = x.op(EXCHANGE, 1, 0);
        x.number(noAddress, 1);
        Check.due("no address", x.leave(), NONE);
        x.address(noAddress, 1);
        x.leave();
        x.address(x.op(EXCHANGE, 1, 0), 1);
        Check.due("no number and no buffer", x.leave(), NONE);
    }

    private static void leaveDevice() {
        LoadStoreRows x = new LoadStoreRows();
        store(x, 1, 0, 1);
        int device = store(x, 2, 3072, 0x0102);
        int plain = store(x, 1, 3071, 3);
        x.leave();
        Check.due("buffer not empty", x.leave(), NONE);
        x.drain();
        Check.due("leaves", x.leave(), device);
        Check.due("to memory at once", x.memory(3072) * 256 + x.memory(3073), 0x0102);
        Check.due("not in the buffer", x.count(2), 0);
        Check.due("3071 is none", x.leave(), plain);
        Check.due("it is in the buffer", x.count(2), 1);
        Check.due("memory waits", x.memory(3071), 0);
    }

    private static void drain() {
        LoadStoreRows x = new LoadStoreRows();
        for (int i = 0; i < 4; i++) {
            store(x, 4, 80 + i, 0x01010101 * (i + 1));
            x.leave();
        }
        int later = load(x, 4, 0, 83);
        x.tried(later);
        int[] first = {1, 2, 3, 4};
        for (int i = 0; i < 4; i++) {
            Check.due("nothing yet at " + (83 + i), x.memory(83 + i), 0);
            Check.due("oldest first", x.drain(), i);
            Check.due("in memory", x.memory(83), first[i]);
            Check.due("left in the buffer", x.count(2), 3 - i);
        }
        Check.due("empty", x.drain(), NONE);
        Check.due("draining undoes none", x.loaded(later), 0x04040404);
        for (int i = 0; i < 7; i++) {
            Check.due("byte " + (80 + i), x.memory(80 + i), Math.min(i + 1, 4));
            x.other(80 + i, 99);
        }
        int after = load(x, 4, 0, 83);
        x.tried(after);
        Check.due("nothing of it is left in the buffer", x.loaded(after), 0x63636363);
    }

    private static void bufferOutlivesManyOps() {
        LoadStoreRows x = new LoadStoreRows();
        store(x, 2, 90, 0xBEEF);
        x.leave();
        for (int i = 1; i < 98; i++) {
            int load = load(x, 1, 0, i % 2 == 0 ? 90 : 91);
            x.tried(load);
            if (i > 90) {
                Check.due("load " + i, x.loaded(load), i % 2 == 0 ? 0xBE : 0xEF);
            }
            Check.due("leaves", x.leave(), load);
        }
        for (int i = 98; i < 130; i++) {
            x.op(STORE, 1, 0);
        }
        Check.due("drained at last", x.drain(), 0);
        Check.due("its byte", x.memory(90), 0xBE);
    }

    private static void other() {
        LoadStoreRows x = new LoadStoreRows();
        Check.throwsArgument("-1", () -> x.other(-1, 0));
        Check.throwsArgument("4096", () -> x.other(4096, 0));
        Check.throwsArgument("v -1", () -> x.other(0, -1));
        Check.throwsArgument("v 256", () -> x.other(0, 256));
        Check.throwsArgument("far off", () -> x.other(Integer.MIN_VALUE, Integer.MAX_VALUE));
        Check.due("first byte", x.other(0, 255), 0);
        Check.due("last byte", x.other(4095, 128), 0);
        Check.due("memory 0", x.memory(0), 255);
        Check.due("memory 4095", x.memory(4095), 128);
        int before = load(x, 1, 1, 200);
        int notTried = load(x, 4, 2, 200);
        int wrong = load(x, 4, 3, 198);
        int younger = load(x, 1, 4, 300);
        int fromStore = x.op(STORE, 1, 0);
        for (int op : new int[] {before, wrong, younger}) {
            x.tried(op);
        }
        Check.due("no load has it", x.other(202, 1), 0);
        Check.due("the last byte of it", x.other(201, 6), 2);
        Check.due("no mark", x.count(8), 0);
        counts("undone", x, 5, 5, 0, 1, 2, 1, 0, 6, 0, before);
        x.tried(wrong);
        Check.due("the new byte", x.loaded(wrong), 6);
        Check.due("though the byte is the same", x.other(198, 0), 1);
        x.leave();
        Check.due("left ones are not undone", x.other(200, 9), 0);
        Check.due("of the left one", x.loaded(before), 0);
        Check.due("not tried one", x.tried(notTried), 1);
        Check.due("what is there now", x.loaded(notTried), 0x09060100);
        x.forget(fromStore);
    }

    private static void otherSparesTheBuffer() {
        LoadStoreRows x = new LoadStoreRows();
        store(x, 1, 200, 5);
        x.leave();
        store(x, 1, 201, 6);
        int load = load(x, 4, 0, 200);
        x.tried(load);
        Check.due("from the buffer", x.other(200, 1), 0);
        Check.due("from a store", x.other(201, 1), 0);
        Check.due("memory has it", x.memory(200), 1);
        Check.due("what is in the buffer stays", x.count(2), 1);
        x.drain();
        Check.due("over it", x.memory(200), 5);
        Check.due("it took it from the buffer", x.other(200, 2), 0);
        Check.due("from memory", x.other(203, 1), 1);
        int device = 3;
        x.tried(load);
        x.leave();
        x.leave();
        x.drain();
        x.address(x.op(LOAD, 1, 0), 3072);
        Check.due("device's load", x.tried(device), 1);
        Check.due("device's byte", x.other(3072, 1), 1);
    }

    private static void memory() {
        LoadStoreRows x = new LoadStoreRows();
        Check.throwsArgument("-1", () -> x.memory(-1));
        Check.throwsArgument("4096", () -> x.memory(4096));
        Check.throwsArgument("far below", () -> x.memory(Integer.MIN_VALUE));
        Check.throwsArgument("far above", () -> x.memory(Integer.MAX_VALUE));
        x.other(4095, 200);
        Check.due("last", x.memory(4095), 200);
        Check.due("first", x.memory(0), 0);
        store(x, 1, 4, 250);
        Check.due("a store that waits", x.memory(4), 0);
        x.leave();
        Check.due("a store in the buffer", x.memory(4), 0);
        x.drain();
        Check.due("a store that drained", x.memory(4), 250);
    }

    private static void forget() {
        LoadStoreRows x = new LoadStoreRows();
        Check.throwsIndex("none", () -> x.forget(0));
        store(x, 1, 5, 1);
        int load = load(x, 1, 0, 5);
        int fence = x.op(FENCE, 0, 0);
        x.op(FENCE, 0, 0);
        x.leave();
        Check.throwsArgument("left", () -> x.forget(0));
        Check.throwsIndex("none behind", () -> x.forget(4));
        Check.throwsIndex("negative", () -> x.forget(-1));
        Check.due("two", x.forget(fence), 2);
        Check.throwsIndex("gone", () -> x.forget(fence));
        Check.throwsIndex("gone for tried too", () -> x.tried(fence));
        Check.due("the rest stays", x.tried(load), 1);
        Check.due("anew", x.op(STORE, 1, 0), fence);
        Check.due("anew without address", x.address(fence, 9), 0);
        Check.due("anew without number", x.number(fence, 9), 1);
        Check.due("all", x.forget(load), 2);
        counts("forgotten", x, 1, 0, 1, 0);
        Check.due("none waits", x.count(9), NONE);
        Check.due("the buffer stays", x.drain(), 0);
        int again = x.op(LOAD, 2, 0);
        Check.due("number anew", again, load);
        Check.throwsArgument("address is not known", () -> x.tried(again));
        x.address(again, 5);
        Check.throwsArgument("it is not done", () -> x.loaded(again));
        Check.due("then it is", x.tried(again), 1);

        LoadStoreRows y = new LoadStoreRows();
        y.other(7, 7);
        int store = store(y, 1, 7, 1);
        y.forget(store);
        int alone = load(y, 1, 0, 7);
        y.tried(alone);
        Check.due("a forgotten store gives no byte", y.loaded(alone), 7);
        y.forget(alone);
        Check.due("a store in its place", y.op(STORE, 2, 0), store);
        Check.due("it has no number", y.number(store, 9), 2);
        Check.due("it has no address", y.address(store, 9), 0);
    }

    private static void forgetKeepsMarksAndCounts() {
        LoadStoreRows x = new LoadStoreRows();
        store(x, 1, 7, 1);
        int late = x.op(STORE, 1, 0);
        int load = load(x, 2, 12, 7);
        x.tried(load);
        x.address(late, 7);
        x.forget(0);
        Check.due("the mark stays", x.marked(12), true);
        counts("what happened so far stays", x, 0, 0, 0, 0, 1, 1, 1, 1, 1, NONE);
    }

    private static void marked() {
        LoadStoreRows x = new LoadStoreRows();
        for (int program : new int[] {0, -1, 32, 64 + 31, 1 << 20}) {
            int store = x.op(STORE, 1, 0);
            int load = load(x, 1, program, 7);
            x.tried(load);
            if (!x.marked(program)) {
                x.address(store, 7);
            }
            x.forget(store);
        }
        for (int program = -64; program < 128; program++) {
            int low = program & 63;
            Check.due("marked " + program, x.marked(program), low == 0 || low == 31 || low == 32 || low == 63);
        }
        Check.due("MIN_VALUE", x.marked(Integer.MIN_VALUE), true);
        Check.due("MAX_VALUE", x.marked(Integer.MAX_VALUE), true);
        Check.due("marks", x.count(8), 4);
    }

    private static void count() {
        LoadStoreRows x = new LoadStoreRows();
        for (int what : new int[] {-1, 10, 11, Integer.MIN_VALUE, Integer.MAX_VALUE}) {
            Check.due("count " + what, x.count(what), NONE);
        }
        int first = store(x, 2, 7, 0x0102);
        int late = x.op(STORE, 1, 0);
        int load = load(x, 4, 40, 7);
        int other = load(x, 1, 41, 900);
        x.tried(load);
        x.tried(other);
        counts("tried", x, 4, 4, 0, 2, 0, 0, 2, 3, 0, first);
        x.address(late, 10);
        counts("undone", x, 4, 4, 0, 0, 2, 1, 2, 3, 1, first);
        x.leave();
        counts("left", x, 4, 3, 1, 0, 2, 1, 2, 3, 1, late);
        x.number(late, 4);
        x.tried(load);
        counts("again", x, 4, 3, 1, 1, 2, 1, 3, 6, 1, late);
        x.leave();
        x.leave();
        counts("load left", x, 4, 1, 2, 0, 2, 1, 3, 6, 1, other);
        x.tried(other);
        x.leave();
        x.drain();
        counts("all left", x, 4, 0, 1, 0, 2, 1, 3, 7, 1, NONE);
    }

    private static void manyCalls() {
        LoadStoreRows x = new LoadStoreRows();
        for (int i = 0; i < 170; i++) {
            Check.due("op", x.op(FENCE, 0, i), i);
            Check.due("leave", x.leave(), i);
        }
        counts("many", x, 170, 0, 0, 0, 0, 0, 0, 0, 0, NONE);
        Check.throwsArgument("an old one does not wait", () -> x.forget(0));
        Check.throwsState("an old one is not kept", () -> x.loaded(105));
        Check.throwsArgument("a fence", () -> x.loaded(106));
    }

    private static void oldOpsAreNotMistakenForNewOnes() {
        LoadStoreRows x = new LoadStoreRows();
        store(x, 1, 5, 1);
        x.leave();
        x.drain();
        x.tried(load(x, 1, 0, 5));
        x.leave();
        for (int i = 2; i < 192; i++) {
            x.op(FENCE, 0, 0);
            x.leave();
        }
        for (int i = 0; i < 32; i++) {
            x.op(i % 2 == 0 ? STORE : LOAD, 1, 0);
        }
        for (int op = 0; op < 192; op += 32) {
            int store = op;
            int load = op + 1;
            Check.throwsArgument("address of the left " + store, () -> x.address(store, 6));
            Check.throwsArgument("number of the left " + store, () -> x.number(store, 6));
            Check.throwsArgument("address of the left " + load, () -> x.address(load, 6));
        }
        x.address(193, 7);
        for (int op = 1; op < 193; op += 32) {
            int load = op;
            Check.throwsArgument("try of the left " + load, () -> x.tried(load));
        }
        Check.due("try of the one that waits", x.tried(193), 1);
        Check.throwsArgument("source of a left one", () -> x.source(65, 0));
        Check.throwsArgument("source of another left one", () -> x.source(1, 0));
    }
}
