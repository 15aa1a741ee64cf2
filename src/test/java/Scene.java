/** What several tests need to bring an object to where a sentence can be seen. */
abstract class Scene {
    static final int LOAD = 0;
    static final int STORE = 1;
    static final int FENCE = 2;
    static final int EXCHANGE = 3;
    static final int NONE = LoadStoreRows.NONE;

    static int load(LoadStoreRows x, int bytes, int program, int at) {
        int op = x.op(LOAD, bytes, program);
        x.address(op, at);
        return op;
    }

    static int doneLoad(LoadStoreRows x, int bytes, int program, int at) {
        int op = load(x, bytes, program, at);
        Check.due("try of " + op, x.tried(op), 1);
        return op;
    }

    static int store(LoadStoreRows x, int bytes, int at, int v) {
        return told(x, STORE, bytes, at, v);
    }

    static int exchange(LoadStoreRows x, int bytes, int at, int v) {
        return told(x, EXCHANGE, bytes, at, v);
    }

    static int fence(LoadStoreRows x) {
        return x.op(FENCE, 0, 0);
    }

    /** An op that has all that it can be told. */
    static int told(LoadStoreRows x, int kind, int bytes, int at, int v) {
        int op = x.op(kind, bytes, 0);
        if (kind != FENCE) {
            x.address(op, at);
        }
        if (kind == STORE || kind == EXCHANGE) {
            x.number(op, v);
        }
        return op;
    }

    /** A store that left; only for an object where none waits. */
    static int bufferedStore(LoadStoreRows x, int bytes, int at, int v) {
        int op = store(x, bytes, at, v);
        Check.due("leaving of " + op, x.leave(), op);
        return op;
    }

    static void fencesThatLeft(LoadStoreRows x, int many) {
        for (int i = 0; i < many; i++) {
            fence(x);
            x.leave();
        }
    }

    static void otherWrites(LoadStoreRows x, int at, int... bytes) {
        for (int k = 0; k < bytes.length; k++) {
            x.other(at + k, bytes[k]);
        }
    }

    /** Marks a place of the program that has no mark yet, and takes the ops for it away again. */
    static void mark(LoadStoreRows x, int program) {
        int store = x.op(STORE, 1, 0);
        doneLoad(x, 1, program, 0);
        Check.due("wrong for a mark of " + program, x.address(store, 0), 1);
        x.forget(store);
    }

    static void counts(String when, LoadStoreRows x, int... want) {
        for (int what = 0; what < want.length; what++) {
            Check.due(when + ": count(" + what + ")", x.count(what), want[what]);
        }
    }

    static void memoryIs(String when, LoadStoreRows x, int at, int... want) {
        for (int k = 0; k < want.length; k++) {
            Check.due(when + ": memory(" + (at + k) + ")", x.memory(at + k), want[k]);
        }
    }

    static String allCounts(LoadStoreRows x) {
        StringBuilder all = new StringBuilder();
        for (int what = 0; what < 10; what++) {
            all.append(x.count(what)).append(' ');
        }
        return all.toString();
    }
}
