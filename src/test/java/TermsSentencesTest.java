/** A test for each sentence of 'What it is' and of 'Terms' that names a boundary. */
public final class TermsSentencesTest extends Scene {
    private static final String WHAT_IT_IS = "What it is";
    private static final String TERMS = "Terms";

    public static void main(String[] args) {
        Sentences.runAll(TermsSentencesTest.class);
    }

    // What it is

    @Sentence(in = WHAT_IT_IS, promises = "1 to 14",
            says = "An object is used for at most 512 calls after it has been made")
    static void the512thCallIsAnswered(LoadStoreRows x) {
        for (int i = 0; i < 256; i++) {
            Check.due("fence comes", x.op(FENCE, 0, 0), i);
            Check.due("fence leaves", x.leave(), i);
        }
        LoadStoreRows loads = new LoadStoreRows();
        for (int i = 0; i < 128; i++) {
            doneLoad(loads, 4, i, 4 * i);
            Check.due("load leaves", loads.leave(), i);
        }
        LoadStoreRows stores = new LoadStoreRows();
        for (int i = 0; i < 102; i++) {
            store(stores, 1, i, i + 1);
            Check.due("store leaves", stores.leave(), i);
            Check.due("store drains", stores.drain(), i);
        }
        Check.due("511th call", stores.memory(101), 102);
        Check.due("512th call", stores.count(0), 102);
    }

    @Sentence(in = WHAT_IT_IS, promises = "2, 5, 6, 7", says = "bytes come from the newest older store")
    static void anOpsNumberMayWrapRoundTheRows(LoadStoreRows x) {
        // numbers about 64 and 128 are where rows that are used again begin anew
        fencesThatLeft(x, 62);
        for (int first = 62; first <= 126; first += 64) {
            int oldest = store(x, 4, 20, 0x01020304);
            int middle = store(x, 2, 20, 0x1112);
            int newest = store(x, 1, 20, 0x21);
            int load = doneLoad(x, 4, 0, 20);
            Check.due("oldest", oldest, first);
            Check.due("loaded", x.loaded(load), 0x21120304);
            Check.due("source 0", x.source(load, 0), newest);
            Check.due("source 1", x.source(load, 1), middle);
            Check.due("source 3", x.source(load, 3), oldest);
            for (int i = 0; i < 4; i++) {
                Check.due("leaves", x.leave(), first + i);
            }
            for (int i = 0; i < 3; i++) {
                Check.due("drains", x.drain(), first + i);
            }
            fencesThatLeft(x, 60);
        }
    }

    @Sentence(in = WHAT_IT_IS, promises = "3, 5",
            says = "loads go ahead of stores whose places are not known unless they were wrong before, "
                    + "and are done again when they were")
    static void aLoadGoesAheadUnlessItWasWrongBefore(LoadStoreRows x) {
        int store = x.op(STORE, 1, 0);
        int load = load(x, 1, 9, 30);
        Check.due("ahead", x.tried(load), 1);
        Check.due("wrong", x.address(store, 30), 1);
        x.number(store, 8);
        Check.due("done again", x.tried(load), 1);
        Check.due("its byte", x.loaded(load), 8);
        x.op(STORE, 1, 0);
        Check.due("not ahead any more", x.tried(load(x, 1, 9, 30)), 3);
    }

    // MEMORY and OPS

    @Sentence(in = TERMS, promises = "10, 11", says = "MEMORY has 4096 bytes")
    static void memoryHas4096Bytes(LoadStoreRows x) {
        int[] places = {0, 1, 2, 4, 8, 16, 32, 64, 128, 256, 512, 1024, 2048, 3071, 3072, 4095};
        for (int i = 0; i < places.length; i++) {
            Check.due("written " + places[i], x.other(places[i], i + 1), 0);
        }
        for (int i = 0; i < places.length; i++) {
            Check.due("each is a byte of its own: " + places[i], x.memory(places[i]), i + 1);
        }
        Check.throwsArgument("no byte 4096", () -> x.memory(4096));
        Check.throwsArgument("no byte -1", () -> x.memory(-1));
    }

    @Sentence(in = TERMS, promises = "1, 11", says = "0 at first")
    static void memoryIs0AtFirst(LoadStoreRows x) {
        LoadStoreRows some = x;
        for (int at = 0; at < 4096; at++) {
            // nothing is promised behind an object's 512th call
            some = at % 512 == 0 ? new LoadStoreRows() : some;
            Check.due("memory(" + at + ")", some.memory(at), 0);
        }
        Check.due("loaded", x.loaded(doneLoad(x, 4, 0, 4092)), 0);
    }

    @Sentence(in = TERMS, promises = "5, 8", says = "those from 3072 on are a DEVICE's")
    static void theDevicesPartBeginsAt3072(LoadStoreRows x) {
        x.op(LOAD, 1, 0);
        Check.due("load at 3071", x.tried(load(x, 1, 0, 3071)), 1);
        Check.due("load at 3072", x.tried(load(x, 1, 0, 3072)), 2);
        Check.due("load at 4095", x.tried(load(x, 1, 0, 4095)), 2);
        x.forget(0);
        bufferedStore(x, 1, 3071, 1);
        Check.due("store at 3071 is in the buffer", x.count(2), 1);
        x.drain();
        for (int at : new int[] {3072, 4095}) {
            bufferedStore(x, 1, at, 2);
            Check.due("store at " + at + " is in no buffer", x.count(2), 0);
            Check.due("but in memory", x.memory(at), 2);
        }
    }

    @Sentence(in = TERMS, promises = "2, 8", says = "OPS have numbers, from 0 on, in their order")
    static void numbersGoUpFrom0(LoadStoreRows x) {
        Check.due("first", x.op(FENCE, 0, 7), 0);
        Check.due("second", x.op(LOAD, 4, 7), 1);
        Check.due("leaves", x.leave(), 0);
        Check.due("a number of one that left is not given anew", x.op(STORE, 1, 7), 2);
        Check.throwsArgument("2 is the store", () -> x.tried(2));
    }

    @Sentence(in = TERMS, promises = "2, 8, 14", says = "up to 32 of them WAIT (came and did not leave)")
    static void upTo32Wait(LoadStoreRows x) {
        for (int i = 0; i < 32; i++) {
            Check.due("comes", fence(x), i);
            Check.due("waiting", x.count(1), i + 1);
        }
        Check.throwsUnsupported("the 33rd", () -> fence(x));
        Check.due("leaves", x.leave(), 0);
        Check.due("one that left waits no more", x.count(1), 31);
        Check.due("room for one", fence(x), 32);
        Check.throwsUnsupported("and no more", () -> fence(x));
    }

    @Sentence(in = TERMS, promises = "2",
            says = "An op is a LOAD (0), a STORE (1), a FENCE (2) or an EXCHANGE (3)")
    static void kindsAreWhatTheyAreCalled(LoadStoreRows x) {
        int load = x.op(0, 1, 0);
        int store = x.op(1, 1, 0);
        int fence = x.op(2, 0, 0);
        int exchange = x.op(3, 1, 0);
        Check.throwsArgument("a load has no number", () -> x.number(load, 1));
        x.address(load, 5);
        Check.due("a load is tried", x.tried(load), 1);
        x.leave();
        x.address(store, 5);
        x.number(store, 6);
        Check.throwsArgument("a store is not tried", () -> x.tried(store));
        x.leave();
        Check.due("a store is in the buffer", x.count(2), 1);
        Check.due("a fence waits for it", x.leave(), NONE);
        x.drain();
        Check.due("then it leaves", x.leave(), fence);
        x.address(exchange, 5);
        x.number(exchange, 7);
        Check.due("an exchange leaves", x.leave(), exchange);
        Check.due("and has loaded", x.loaded(exchange), 6);
    }

    @Sentence(in = TERMS, promises = "2, 4", says = ", of 1, 2 or 4 bytes")
    static void opsHave1Or2Or4Bytes(LoadStoreRows x) {
        for (int kind : new int[] {LOAD, STORE, EXCHANGE}) {
            for (int bytes = -1; bytes <= 9; bytes++) {
                LoadStoreRows y = new LoadStoreRows();
                int many = bytes;
                String want = bytes == 1 || bytes == 2 || bytes == 4 ? "0" : "throws.IllegalArgumentException";
                Check.due("kind " + kind + " of " + bytes, Check.answer(() -> y.op(kind, many, 0)), want);
            }
        }
    }

    @Sentence(in = TERMS, promises = "2", says = "(a FENCE of none)")
    static void aFenceHasNoBytes(LoadStoreRows x) {
        for (int bytes : new int[] {-1, 1, 2, 3, 4, Integer.MIN_VALUE, Integer.MAX_VALUE}) {
            Check.throwsArgument("of " + bytes, () -> x.op(FENCE, bytes, 0));
        }
        Check.due("of 0", x.op(FENCE, 0, 0), 0);
    }

    @Sentence(in = TERMS, promises = "2, 13", says = ", and comes from a PLACE OF THE PROGRAM (an int)")
    static void anyIntIsAPlaceOfTheProgram(LoadStoreRows x) {
        for (int program : new int[] {0, 1, 62, 63, 64, -1, -64, Integer.MIN_VALUE, Integer.MAX_VALUE}) {
            LoadStoreRows y = new LoadStoreRows();
            mark(y, program);
            Check.due("marked(" + program + ")", y.marked(program), true);
            Check.due("marks", y.count(8), 1);
        }
    }

    @Sentence(in = TERMS, promises = "3",
            says = "A load, store, exchange has an ADDRESS, told later (0 up to 4096 less its bytes;")
    static void addressesGoFrom0UpTo4096LessTheBytes(LoadStoreRows x) {
        for (int kind : new int[] {LOAD, STORE, EXCHANGE}) {
            for (int bytes : new int[] {1, 2, 4}) {
                LoadStoreRows y = new LoadStoreRows();
                int op = y.op(kind, bytes, 0);
                String who = "kind " + kind + " of " + bytes + " at ";
                for (int at : new int[] {-1, -bytes, 4097 - bytes, 4096, Integer.MIN_VALUE, Integer.MAX_VALUE}) {
                    Check.throwsArgument(who + at, () -> y.address(op, at));
                }
                Check.due(who + 0, y.address(op, 0), 0);
                Check.due(who + (4096 - bytes), y.address(y.op(kind, bytes, 0), 4096 - bytes), 0);
            }
        }
    }

    @Sentence(in = TERMS, promises = "3", says = "not partly a device's)")
    static void noAddressIsPartlyADevices(LoadStoreRows x) {
        for (int kind : new int[] {LOAD, STORE, EXCHANGE}) {
            for (int bytes : new int[] {1, 2, 4}) {
                LoadStoreRows y = new LoadStoreRows();
                for (int at = 3066; at <= 3074; at++) {
                    int op = y.op(kind, bytes, 0);
                    int place = at;
                    boolean partly = at < 3072 && at + bytes > 3072;
                    Check.due("kind " + kind + " of " + bytes + " at " + at,
                            Check.answer(() -> y.address(op, place)),
                            partly ? "throws.IllegalArgumentException" : "0");
                }
            }
        }
    }

    @Sentence(in = TERMS, promises = "4, 8", says = ", store and exchange a NUMBER, told later;")
    static void theNumberIsToldAheadOfTheAddressOrBehindIt(LoadStoreRows x) {
        for (int kind : new int[] {STORE, EXCHANGE}) {
            int op = x.op(kind, 1, 0);
            x.address(op, 5);
            Check.due("no number yet", x.leave(), NONE);
            Check.due("behind the address", x.number(op, 3), 1);
            Check.due("leaves", x.leave(), op);
            x.drain();
            int next = x.op(kind, 1, 0);
            Check.due("ahead of the address", x.number(next, 4), 1);
            Check.due("no address yet", x.leave(), NONE);
            x.address(next, 6);
            Check.due("leaves", x.leave(), next);
            x.drain();
            memoryIs("kind " + kind, x, 5, 3, 4);
        }
    }

    @Sentence(in = TERMS, promises = "4, 6, 11",
            says = "bytes of a number: the highest of so many lowest bytes first.")
    static void theHighestOfTheLowestBytesIsFirst(LoadStoreRows x) {
        for (int kind : new int[] {STORE, EXCHANGE}) {
            for (int[] due : new int[][] {{0x44}, {0x33, 0x44}, {0x11, 0x22, 0x33, 0x44}}) {
                LoadStoreRows y = new LoadStoreRows();
                otherWrites(y, 49, 9, 9, 9, 9, 9, 9);
                told(y, kind, due.length, 50, 0x11223344);
                y.leave();
                y.drain();
                memoryIs("kind " + kind + " of " + due.length, y, 50, due);
                memoryIs("ahead and behind", y, 49, 9);
                memoryIs("ahead and behind", y, 50 + due.length, 9);
            }
        }
        int store = store(x, 4, 60, 0xFEDCBA98);
        int[] due = {0xFE, 0xDC, 0xBA, 0x98};
        for (int k = 0; k < 4; k++) {
            Check.due("byte " + k + " of " + store, x.loaded(doneLoad(x, 1, 0, 60 + k)), due[k]);
        }
    }

    @Sentence(in = TERMS, promises = "3, 4", says = "Both may be told once.")
    static void bothAreToldOnce(LoadStoreRows x) {
        for (int kind : new int[] {STORE, EXCHANGE}) {
            LoadStoreRows y = new LoadStoreRows();
            int op = told(y, kind, 1, 7, 5);
            Check.throwsArgument("another address", () -> y.address(op, 8));
            Check.throwsArgument("the same address", () -> y.address(op, 7));
            Check.throwsArgument("another number", () -> y.number(op, 6));
            Check.throwsArgument("the same number", () -> y.number(op, 5));
            y.leave();
            y.drain();
            memoryIs("what was told first, kind " + kind, y, 7, 5, 0);
        }
        int zero = told(x, STORE, 1, 0, 0);
        Check.throwsArgument("0 is an address too", () -> x.address(zero, 1));
        Check.throwsArgument("0 is a number too", () -> x.number(zero, 1));
        int load = load(x, 1, 0, 9);
        Check.throwsArgument("a load's address", () -> x.address(load, 9));
    }

    // THE BUFFER

    @Sentence(in = TERMS, promises = "8, 9, 14",
            says = "THE BUFFER: stores that left, and are not in memory yet")
    static void theBufferHoldsStoresThatLeft(LoadStoreRows x) {
        doneLoad(x, 1, 0, 9);
        x.leave();
        fence(x);
        x.leave();
        exchange(x, 1, 9, 1);
        x.leave();
        Check.due("no store left", x.count(2), 0);
        store(x, 1, 10, 5);
        Check.due("a store that waits", x.count(2), 0);
        x.leave();
        Check.due("a store that left", x.count(2), 1);
        Check.due("is not in memory", x.memory(10), 0);
        x.drain();
        Check.due("a store in memory", x.count(2), 0);
        Check.due("is not in the buffer", x.memory(10), 5);
    }

    @Sentence(in = TERMS, promises = "8, 14", says = ", up to 4,")
    static void theBufferHoldsUpTo4(LoadStoreRows x) {
        for (int i = 0; i < 6; i++) {
            store(x, 1, i, i + 1);
        }
        for (int i = 0; i < 4; i++) {
            Check.due("room", x.leave(), i);
            Check.due("in the buffer", x.count(2), i + 1);
        }
        Check.due("full", x.leave(), NONE);
        Check.due("still 4", x.count(2), 4);
        Check.due("the fifth waits", x.count(9), 4);
        x.drain();
        Check.due("room for one", x.leave(), 4);
        Check.due("full again", x.leave(), NONE);
    }

    @Sentence(in = TERMS, promises = "9", says = "the oldest first.")
    static void theBufferHasTheOldestFirst(LoadStoreRows x) {
        for (int i = 0; i < 4; i++) {
            bufferedStore(x, 1, 33, i + 1);
        }
        for (int i = 0; i < 9; i++) {
            Check.due("the oldest", x.drain(), i);
            Check.due("its byte", x.memory(33), i + 1);
            bufferedStore(x, 1, 33, i + 5);
        }
    }

    // TRIED

    @Sentence(in = TERMS, promises = "5", says = "TRIED, a load that waits, is not done and has an address answers:")
    static void onlyALoadWithAnAddressThatIsNotDoneAnswers(LoadStoreRows x) {
        int load = x.op(LOAD, 1, 0);
        Check.throwsArgument("no address", () -> x.tried(load));
        x.address(load, 0);
        Check.due("address", x.tried(load), 1);
        Check.throwsArgument("done", () -> x.tried(load));
        x.other(0, 1);
        Check.due("undone", x.tried(load), 1);
        x.leave();
        Check.throwsArgument("left", () -> x.tried(load));
    }

    @Sentence(in = TERMS, promises = "5", says = "answers:")
    static void twoGoesAheadOfThreeAndThreeAheadOfFour(LoadStoreRows x) {
        mark(x, 5);
        int fence = fence(x);
        int noAddress = x.op(STORE, 1, 0);
        int noNumber = x.op(STORE, 1, 0);
        x.address(noNumber, 20);
        int load = load(x, 1, 5, 20);
        Check.due("2, 3 and 4 hold", x.tried(load), 2);
        Check.due("the fence leaves", x.leave(), fence);
        Check.due("3 and 4 hold", x.tried(load), 3);
        x.address(noAddress, 30);
        Check.due("4 holds", x.tried(load), 4);
        x.number(noNumber, 1);
        Check.due("none holds", x.tried(load), 1);
    }

    @Sentence(in = TERMS, promises = "5", says = "2, when an older fence or exchange waits;")
    static void anOlderFenceOrExchangeHoldsBack(LoadStoreRows x) {
        for (int kind : new int[] {FENCE, EXCHANGE}) {
            LoadStoreRows y = new LoadStoreRows();
            int before = load(y, 1, 0, 8);
            told(y, kind, kind == FENCE ? 0 : 1, 600, 1);
            int store = store(y, 1, 8, 1);
            int behind = load(y, 1, 0, 8);
            Check.due("behind " + kind, y.tried(behind), 2);
            Check.due("a younger one does not", y.tried(before), 1);
            y.leave();
            Check.due("it waits still", y.tried(behind), 2);
            y.leave();
            Check.due("it left", y.tried(behind), 1);
            Check.due("by the store", y.source(behind, 0), store);
        }
        x.op(EXCHANGE, 1, 0);
        Check.due("an exchange without an address does too", x.tried(load(x, 1, 0, 8)), 2);
    }

    @Sentence(in = TERMS, promises = "5",
            says = "when it is a device's, and is not the oldest op that waits,")
    static void aDevicesLoadMustBeTheOldest(LoadStoreRows x) {
        doneLoad(x, 1, 0, 0);
        store(x, 1, 3074, 1);
        int device = load(x, 2, 0, 3072);
        Check.due("two are older", x.tried(device), 2);
        x.leave();
        Check.due("one is older", x.tried(device), 2);
        Check.due("another's load need not", x.tried(load(x, 2, 0, 3070)), 1);
        x.leave();
        Check.due("the oldest", x.tried(device), 1);
    }

    @Sentence(in = TERMS, promises = "5", says = "or the buffer is not empty.")
    static void aDevicesLoadNeedsAnEmptyBuffer(LoadStoreRows x) {
        for (int i = 0; i < 4; i++) {
            bufferedStore(x, 1, i, 1);
        }
        int device = load(x, 1, 0, 4095);
        for (int i = 0; i < 4; i++) {
            Check.due("not empty", x.tried(device), 2);
            x.drain();
        }
        Check.due("empty", x.tried(device), 1);
        x.leave();
        bufferedStore(x, 1, 0, 1);
        Check.due("another's load does not", x.tried(load(x, 1, 0, 3071)), 1);
    }

    @Sentence(in = TERMS, promises = "5", says = "3, when an older store waits whose address is not known,")
    static void onlyAnOlderStoreWithoutAnAddressKeepsAMarkedLoad(LoadStoreRows x) {
        mark(x, 5);
        int first = x.op(STORE, 1, 0);
        int second = x.op(STORE, 1, 0);
        x.op(LOAD, 1, 0);
        int load = load(x, 1, 5, 20);
        x.op(STORE, 1, 0);
        Check.due("two older ones", x.tried(load), 3);
        x.address(first, 40);
        Check.due("one older one", x.tried(load), 3);
        x.number(second, 1);
        Check.due("a number alone does not help", x.tried(load), 3);
        x.address(second, 41);
        Check.due("a younger one and a load do not matter", x.tried(load), 1);
    }

    @Sentence(in = TERMS, promises = "5, 13", says = "and the load's program place is MARKED")
    static void onlyAMarkedLoadIsKept(LoadStoreRows x) {
        mark(x, 5);
        x.op(STORE, 1, 5);
        Check.due("marked", x.tried(load(x, 1, 5, 20)), 3);
        Check.due("marked by its lowest six bits", x.tried(load(x, 1, 5 + 64, 20)), 3);
        Check.due("not marked, below", x.tried(load(x, 1, 4, 20)), 1);
        Check.due("not marked, above", x.tried(load(x, 1, 6, 20)), 1);
        Check.due("not marked, 32 on", x.tried(load(x, 1, 37, 20)), 1);
    }

    @Sentence(in = TERMS, promises = "13, 14", says = "(a row of 64 marks, by its lowest six bits,")
    static void thereAre64Marks(LoadStoreRows x) {
        for (int program = 0; program < 64; program++) {
            mark(x, program * 65);
            Check.due("marks", x.count(8), program + 1);
        }
        LoadStoreRows y = new LoadStoreRows();
        mark(y, 63);
        for (int program : new int[] {63, 127, -1, -65, Integer.MAX_VALUE}) {
            Check.due("marked(" + program + ")", y.marked(program), true);
        }
        for (int program : new int[] {62, 64, 0, 31, -2, -64, Integer.MIN_VALUE}) {
            Check.due("marked(" + program + ")", y.marked(program), false);
        }
    }

    @Sentence(in = TERMS, promises = "1, 13, 14", says = "none at first).")
    static void noMarksAtFirst(LoadStoreRows x) {
        for (int program = 0; program < 64; program++) {
            Check.due("marked(" + program + ")", x.marked(program), false);
        }
        Check.due("marks", x.count(8), 0);
    }

    @Sentence(in = TERMS, promises = "5", says = "4, when for one of its bytes")
    static void oneByteWithoutANumberIsEnough(LoadStoreRows x) {
        for (int at = 99; at <= 104; at++) {
            LoadStoreRows y = new LoadStoreRows();
            y.address(y.op(STORE, 1, 0), at);
            boolean inside = at >= 100 && at < 104;
            Check.due("a store at " + at, y.tried(load(y, 4, 0, 100)), inside ? 4 : 1);
        }
        x.address(x.op(STORE, 4, 0), 100);
        for (int at = 98; at <= 104; at++) {
            boolean inside = at >= 99 && at < 104;
            Check.due("a load at " + at, x.tried(load(x, 2, 0, at)), inside ? 4 : 1);
        }
    }

    @Sentence(in = TERMS, promises = "5",
            says = "the newest older store that waits with that byte (of those with addresses) has no number yet.")
    static void onlyTheNewestStoresNumberMatters(LoadStoreRows x) {
        int noNumber = x.op(STORE, 1, 0);
        x.address(noNumber, 20);
        int newer = store(x, 1, 20, 5);
        Check.due("the newest has one", x.tried(load(x, 1, 0, 20)), 1);
        x.forget(newer);
        x.op(STORE, 1, 0);
        Check.due("one without an address is none of them", x.tried(load(x, 1, 0, 20)), 4);
        Check.due("nor has it that byte", x.tried(load(x, 1, 0, 21)), 1);

        LoadStoreRows y = new LoadStoreRows();
        store(y, 1, 20, 5);
        int load = load(y, 1, 0, 20);
        y.address(y.op(STORE, 1, 0), 20);
        Check.due("a younger one is none of them", y.tried(load), 1);
        Check.due("the newest has none", y.tried(load(y, 1, 0, 20)), 4);
        Check.due("nothing is counted for it", y.count(6) + y.count(7), 1);
    }

    @Sentence(in = TERMS, promises = "5, 14", says = "Else 1: it is DONE:")
    static void elseItIsDone(LoadStoreRows x) {
        int load = load(x, 1, 0, 20);
        Check.due("none done", x.count(3), 0);
        Check.due("may not leave", x.leave(), NONE);
        Check.due("try", x.tried(load), 1);
        Check.due("one done", x.count(3), 1);
        Check.due("leaves", x.leave(), load);
    }

    @Sentence(in = TERMS, promises = "5, 6, 7",
            says = "each byte is that of the newest older store that waits with that byte (with an address),")
    static void aByteIsThatOfTheNewestOlderStore(LoadStoreRows x) {
        int wide = store(x, 4, 20, 0x01020304);
        int narrow = store(x, 2, 21, 0x1213);
        int newest = store(x, 1, 22, 0x23);
        int noAddress = x.op(STORE, 4, 0);
        x.number(noAddress, -1);
        int load = load(x, 4, 0, 20);
        store(x, 4, 20, -1);
        x.tried(load);
        Check.due("loaded", x.loaded(load), 0x01122304);
        int[] from = {wide, narrow, newest, wide};
        for (int k = 0; k < 4; k++) {
            Check.due("source " + k, x.source(load, k), from[k]);
        }
    }

    @Sentence(in = TERMS, promises = "5, 6", says = "else of the newest one in the buffer,")
    static void elseOfTheNewestInTheBuffer(LoadStoreRows x) {
        bufferedStore(x, 4, 20, 0x01020304);
        bufferedStore(x, 2, 21, 0x1213);
        bufferedStore(x, 1, 22, 0x23);
        bufferedStore(x, 1, 24, 0x55);
        store(x, 1, 20, 0x31);
        int load = doneLoad(x, 4, 0, 20);
        Check.due("behind a store that waits", x.loaded(load), 0x31122304);
        x.drain();
        int after = doneLoad(x, 4, 0, 20);
        Check.due("and ahead of memory", x.loaded(after), 0x31122304);
    }

    @Sentence(in = TERMS, promises = "5, 6", says = "else of memory.")
    static void elseOfMemory(LoadStoreRows x) {
        otherWrites(x, 20, 0x81, 0x82, 0x83, 0x84);
        bufferedStore(x, 1, 21, 1);
        store(x, 1, 23, 3);
        Check.due("beside them", x.loaded(doneLoad(x, 4, 0, 20)), 0x81018303);
        Check.due("memory alone", x.loaded(doneLoad(x, 1, 0, 20)), 0x81);
    }

    @Sentence(in = TERMS, promises = "5, 9", says = "else of memory.")
    static void whatDrainedIsNotInTheBufferAnyMore(LoadStoreRows x) {
        for (int stores = 1; stores <= 4; stores++) {
            for (int i = 0; i < stores; i++) {
                bufferedStore(x, 1, 20, 5);
            }
            for (int i = 0; i < stores; i++) {
                x.drain();
            }
            x.other(20, stores);
            Check.due("after " + stores, x.loaded(doneLoad(x, 1, 0, 20)), stores);
            x.leave();
        }
    }

    @Sentence(in = TERMS, promises = "7, 10", says = "Of each byte it keeps from which store it was, "
            + "or that it was from the buffer or from memory.")
    static void fromWhereAByteWasIsKept(LoadStoreRows x) {
        bufferedStore(x, 1, 20, 1);
        int store = store(x, 1, 21, 2);
        int load = doneLoad(x, 4, 0, 20);
        x.drain();
        x.leave();
        x.drain();
        Check.due("from the store, though it is in memory now", x.source(load, 1), store);
        Check.due("from the buffer", x.source(load, 0), NONE);
        Check.due("from memory", x.source(load, 2), NONE);
        Check.due("the buffer's byte was not memory's", x.other(20, 9), 0);
        Check.due("the store's byte was not memory's", x.other(21, 9), 0);
        Check.due("what it loaded stays", x.loaded(load), 0x01020000);
        Check.due("memory's byte was", x.other(23, 9), 1);
    }

    // WRONG

    @Sentence(in = TERMS, promises = "3", says = "WRONG. When a store's address is told:")
    static void onlyAStoresAddressMakesLoadsWrong(LoadStoreRows x) {
        int first = x.op(LOAD, 1, 0);
        int second = doneLoad(x, 1, 0, 20);
        Check.due("a load's address", x.address(first, 20), 0);
        Check.due("it is still done", x.loaded(second), 0);
        int store = x.op(STORE, 1, 0);
        doneLoad(x, 1, 0, 20);
        Check.due("a store's number", x.number(store, 1), 1);
        Check.due("none undone by it", x.count(4), 0);
        Check.due("a store's address", x.address(store, 20), 1);
    }

    @Sentence(in = TERMS, promises = "3", says = "the oldest younger load that is done,")
    static void theOldestYoungerLoadThatIsDoneIsWrong(LoadStoreRows x) {
        int older = doneLoad(x, 1, 1, 20);
        int store = x.op(STORE, 1, 0);
        int notDone = load(x, 1, 2, 20);
        int oldest = doneLoad(x, 1, 3, 20);
        int next = doneLoad(x, 1, 4, 20);
        Check.due("undone", x.address(store, 20), 2);
        Check.due("one is wrong", x.count(5), 1);
        Check.due("an older load is not", x.loaded(older), 0);
        Check.due("nor one that was not done", x.marked(2), false);
        Check.due("but the oldest", x.marked(3), true);
        Check.due("not the next one", x.marked(4), false);
        for (int op : new int[] {notDone, oldest, next}) {
            Check.due("try of " + op, x.tried(op), 4);
        }
    }

    @Sentence(in = TERMS, promises = "3", says = "has one of its bytes,")
    static void aLoadWithNoneOfItsBytesIsNotWrong(LoadStoreRows x) {
        for (int bytes : new int[] {1, 2, 4}) {
            for (int at = 95; at <= 105; at++) {
                LoadStoreRows y = new LoadStoreRows();
                int store = y.op(STORE, bytes, 0);
                doneLoad(y, 4, 0, 100);
                boolean meets = at + bytes > 100 && at < 104;
                Check.due("a store of " + bytes + " at " + at, y.address(store, at), meets ? 1 : 0);
            }
        }
    }

    @Sentence(in = TERMS, promises = "3", says = "and took that byte from an older store than this one,")
    static void onlyAByteFromAnOlderStoreIsWrong(LoadStoreRows x) {
        int oldest = store(x, 1, 20, 1);
        int middle = x.op(STORE, 2, 0);
        int late = x.op(STORE, 1, 0);
        int newest = store(x, 1, 21, 3);
        int load = doneLoad(x, 2, 7, 20);
        Check.due("byte 0", x.source(load, 0), oldest);
        Check.due("byte 1", x.source(load, 1), newest);
        Check.due("its byte came from a newer store", x.address(late, 21), 0);
        Check.due("none marked", x.count(8), 0);
        Check.due("one of both came from an older store", x.address(middle, 20), 1);
        Check.due("marked", x.marked(7), true);
    }

    @Sentence(in = TERMS, promises = "3", says = "took that byte")
    static void itIsTheVeryByteThatMatters(LoadStoreRows x) {
        int late = x.op(STORE, 1, 0);
        int other = x.op(STORE, 1, 0);
        int newer = store(x, 1, 20, 3);
        int load = doneLoad(x, 2, 0, 20);
        Check.due("byte 0 from the newer store", x.source(load, 0), newer);
        Check.due("byte 1 is from memory, but not the store's", x.address(late, 20), 0);
        Check.due("byte 1 is", x.address(other, 21), 1);
    }

    @Sentence(in = TERMS, promises = "3", says = "the buffer or memory, is wrong:")
    static void aByteFromTheBufferOrMemoryIsWrong(LoadStoreRows x) {
        bufferedStore(x, 1, 20, 1);
        int late = x.op(STORE, 1, 0);
        int load = doneLoad(x, 1, 3, 20);
        Check.due("from the buffer", x.loaded(load), 1);
        Check.due("is wrong", x.address(late, 20), 1);

        LoadStoreRows y = new LoadStoreRows();
        bufferedStore(y, 1, 20, 1);
        int next = y.op(STORE, 1, 0);
        doneLoad(y, 1, 3, 20);
        y.drain();
        Check.due("from the buffer, and drained since", y.address(next, 20), 1);

        LoadStoreRows z = new LoadStoreRows();
        z.other(20, 5);
        int first = z.op(STORE, 1, 0);
        int fromMemory = doneLoad(z, 1, 3, 20);
        Check.due("from memory", z.loaded(fromMemory), 5);
        Check.due("is wrong too", z.address(first, 20), 1);
    }

    @Sentence(in = TERMS, promises = "3, 14",
            says = "it and all younger loads that are done are not done any more (UNDONE),")
    static void itAndAllYoungerLoadsAreUndone(LoadStoreRows x) {
        int store = x.op(STORE, 1, 0);
        int before = doneLoad(x, 1, 0, 50);
        int wrong = doneLoad(x, 1, 0, 20);
        int elsewhere = doneLoad(x, 1, 0, 60);
        load(x, 1, 0, 20);
        int last = doneLoad(x, 1, 0, 70);
        Check.due("undone", x.address(store, 20), 3);
        Check.due("done that wait", x.count(3), 1);
        Check.due("undone so far", x.count(4), 3);
        Check.due("an older load stays done", x.loaded(before), 0);
        for (int op : new int[] {wrong, elsewhere, last}) {
            Check.throwsArgument(op + " is not done", () -> x.loaded(op));
            Check.throwsArgument(op + " has no source", () -> x.source(op, 0));
        }
        Check.due("may be tried", x.tried(elsewhere), 1);
    }

    @Sentence(in = TERMS, promises = "3, 13", says = "and its program place is marked.")
    static void onlyTheWrongLoadsPlaceIsMarked(LoadStoreRows x) {
        int store = x.op(STORE, 1, 1);
        doneLoad(x, 1, 2, 50);
        doneLoad(x, 1, 3, 20);
        doneLoad(x, 1, 4, 20);
        x.address(store, 20);
        for (int program = 0; program < 8; program++) {
            Check.due("marked(" + program + ")", x.marked(program), program == 3);
        }
        Check.due("marks", x.count(8), 1);
    }

    @Sentence(in = TERMS, promises = "10", says = "When another one writes a byte of memory: "
            + "the oldest load that is done, waits, and took that byte from memory")
    static void anothersByteMakesTheOldestLoadOfItWrong(LoadStoreRows x) {
        doneLoad(x, 4, 0, 100);
        x.leave();
        int notDone = doneLoad(x, 4, 0, 100);
        Check.due("one that left is not wrong", x.other(100, 0), 1);
        doneLoad(x, 4, 0, 50);
        int oldest = doneLoad(x, 4, 0, 100);
        doneLoad(x, 1, 0, 103);
        Check.due("ahead of it", x.other(99, 1), 0);
        Check.due("behind it", x.other(104, 1), 0);
        Check.due("its last byte", x.other(103, 1), 2);
        Check.due("one wrong more", x.count(5), 2);
        Check.due("the one elsewhere stays done", x.count(3), 1);
        x.tried(oldest);
        Check.due("its first byte", x.other(100, 1), 1);
        Check.due("one that left keeps what it loaded", x.loaded(0), 0);
        Check.due("one that was not done", x.tried(notDone), 1);
        Check.due("has the new bytes", x.loaded(notDone), 0x01000001);
    }

    @Sentence(in = TERMS, promises = "10", says = "(not from the buffer)")
    static void aByteFromTheBufferOrAStoreIsNotAnothers(LoadStoreRows x) {
        bufferedStore(x, 1, 20, 1);
        store(x, 1, 21, 2);
        int load = doneLoad(x, 2, 0, 20);
        Check.due("from the buffer", x.other(20, 9), 0);
        Check.due("from a store", x.other(21, 9), 0);
        x.drain();
        Check.due("from the buffer, though drained", x.other(20, 9), 0);
        Check.due("still done", x.loaded(load), 0x0102);
    }

    @Sentence(in = TERMS, promises = "10, 13, 14", says = "is wrong likewise, without a mark.")
    static void anothersByteLeavesNoMark(LoadStoreRows x) {
        doneLoad(x, 1, 5, 20);
        doneLoad(x, 1, 6, 30);
        Check.due("it and the younger one", x.other(20, 0), 2);
        counts("wrong", x, 2, 2, 0, 0, 2, 1, 0, 2, 0, 0);
        Check.due("marked(5)", x.marked(5), false);
        Check.due("marked(6)", x.marked(6), false);
    }

    // LEAVING and DRAINING

    @Sentence(in = TERMS, promises = "8", says = "LEAVING: the oldest op that waits may leave:")
    static void onlyTheOldestMayLeave(LoadStoreRows x) {
        int first = load(x, 1, 0, 20);
        int second = doneLoad(x, 1, 0, 30);
        fence(x);
        Check.due("younger ones do not leave ahead of it", x.leave(), NONE);
        Check.due("all wait", x.count(1), 3);
        x.tried(first);
        Check.due("it leaves", x.leave(), first);
        Check.due("then the next one", x.leave(), second);
        Check.due("and the last one", x.leave(), 2);
    }

    @Sentence(in = TERMS, promises = "8", says = "a load that is done;")
    static void aLoadLeavesWhenItIsDone(LoadStoreRows x) {
        int load = x.op(LOAD, 1, 0);
        Check.due("no address", x.leave(), NONE);
        x.address(load, 20);
        Check.due("not tried", x.leave(), NONE);
        x.tried(load);
        x.other(20, 1);
        Check.due("undone", x.leave(), NONE);
        x.tried(load);
        Check.due("done", x.leave(), load);
    }

    @Sentence(in = TERMS, promises = "8", says = "a store with address and number,")
    static void aStoreLeavesWithAddressAndNumber(LoadStoreRows x) {
        int store = x.op(STORE, 1, 0);
        Check.due("neither", x.leave(), NONE);
        x.address(store, 20);
        Check.due("no number", x.leave(), NONE);
        x.number(store, 0);
        Check.due("both", x.leave(), store);
        int next = x.op(STORE, 1, 0);
        x.number(next, 0);
        Check.due("no address", x.leave(), NONE);
        x.address(next, 0);
        Check.due("both again", x.leave(), next);
    }

    @Sentence(in = TERMS, promises = "8, 9", says = "when the buffer has room (it comes into it;")
    static void aStoreLeavesIntoABufferWithRoom(LoadStoreRows x) {
        for (int i = 0; i < 4; i++) {
            bufferedStore(x, 1, 20 + i, i + 1);
            memoryIs("not yet", x, 20, 0, 0, 0, 0);
        }
        int fifth = store(x, 1, 24, 5);
        Check.due("no room", x.leave(), NONE);
        Check.due("it waits", x.count(1), 1);
        Check.due("drains", x.drain(), 0);
        Check.due("room", x.leave(), fifth);
        for (int i = 1; i < 5; i++) {
            Check.due("drains", x.drain(), i);
        }
        memoryIs("all", x, 20, 1, 2, 3, 4, 5);
    }

    @Sentence(in = TERMS, promises = "8", says = "a device's only when it is empty: it goes on to memory at once)")
    static void aDevicesStoreNeedsAnEmptyBuffer(LoadStoreRows x) {
        bufferedStore(x, 1, 20, 1);
        bufferedStore(x, 1, 21, 1);
        int device = store(x, 4, 4092, 0x01020304);
        Check.due("two in the buffer", x.leave(), NONE);
        x.drain();
        Check.due("one in the buffer", x.leave(), NONE);
        memoryIs("not yet", x, 4092, 0, 0, 0, 0);
        x.drain();
        Check.due("none in the buffer", x.leave(), device);
        memoryIs("at once", x, 4092, 1, 2, 3, 4);
        Check.due("not in the buffer", x.count(2), 0);
        Check.due("nothing to drain", x.drain(), NONE);
        x.address(x.op(STORE, 1, 0), 3072);
        Check.due("no number", x.leave(), NONE);
    }

    @Sentence(in = TERMS, promises = "8", says = "a fence, when the buffer is empty;")
    static void aFenceNeedsAnEmptyBuffer(LoadStoreRows x) {
        bufferedStore(x, 1, 20, 1);
        bufferedStore(x, 1, 21, 1);
        int fence = fence(x);
        Check.due("two in the buffer", x.leave(), NONE);
        x.drain();
        Check.due("one in the buffer", x.leave(), NONE);
        x.drain();
        Check.due("none in the buffer", x.leave(), fence);
    }

    @Sentence(in = TERMS, promises = "8", says = "an exchange with address and number, when the buffer is empty:")
    static void anExchangeNeedsAddressNumberAndAnEmptyBuffer(LoadStoreRows x) {
        int exchange = x.op(EXCHANGE, 1, 0);
        Check.due("neither", x.leave(), NONE);
        x.number(exchange, 3);
        Check.due("no address", x.leave(), NONE);
        x.address(exchange, 20);
        Check.due("both", x.leave(), exchange);
        bufferedStore(x, 1, 30, 1);
        int next = x.op(EXCHANGE, 1, 0);
        x.address(next, 20);
        Check.due("no number, and the buffer", x.leave(), NONE);
        x.number(next, 4);
        Check.due("the buffer", x.leave(), NONE);
        Check.due("memory has not its byte", x.memory(20), 3);
        x.drain();
        Check.due("none in the buffer", x.leave(), next);
        x.address(x.op(EXCHANGE, 1, 0), 20);
        Check.due("no number", x.leave(), NONE);
    }

    @Sentence(in = TERMS, promises = "6, 8",
            says = "it takes the bytes that memory has as what it LOADED, and its own come there.")
    static void anExchangeTakesMemorysBytesAndLeavesItsOwn(LoadStoreRows x) {
        otherWrites(x, 19, 0x81, 0x82, 0x83, 0x84, 0x85);
        int two = exchange(x, 2, 20, 0x00FF0102);
        x.other(20, 0x92);
        x.leave();
        Check.due("what memory had when it left", x.loaded(two), 0x9283);
        memoryIs("its own", x, 19, 0x81, 1, 2, 0x84, 0x85);
        Check.due("at once", x.count(2), 0);
        int four = exchange(x, 4, 20, -1);
        x.leave();
        Check.due("what the first one left there", x.loaded(four), 0x01028485);
        int device = exchange(x, 1, 4095, 7);
        x.leave();
        Check.due("a device's", x.loaded(device), 0);
        Check.due("a device's own", x.memory(4095), 7);
    }

    @Sentence(in = TERMS, promises = "9", says = "DRAINING: the oldest of the buffer goes to memory.")
    static void theOldestDrains(LoadStoreRows x) {
        bufferedStore(x, 2, 20, 0x0102);
        bufferedStore(x, 2, 21, 0x0304);
        x.drain();
        memoryIs("the first one", x, 20, 1, 2, 0);
        Check.due("one is left", x.count(2), 1);
        x.drain();
        memoryIs("the second one", x, 20, 1, 3, 4);
        x.other(21, 9);
        x.drain();
        memoryIs("an empty buffer brings nothing", x, 20, 1, 9, 4);
    }

    @Sentence(in = TERMS, promises = "9", says = "DRAINING: the oldest of the buffer goes to memory.")
    static void anEmptyBufferBringsNothingToMemory(LoadStoreRows x) {
        for (int stores = 1; stores <= 4; stores++) {
            for (int i = 0; i < stores; i++) {
                bufferedStore(x, 1, 20, 5);
            }
            for (int i = 0; i < stores; i++) {
                x.drain();
            }
            x.other(20, stores);
            Check.due("none after " + stores, x.drain(), NONE);
            Check.due("memory after " + stores, x.memory(20), stores);
        }
    }

    // exceptions and constants

    @Sentence(in = TERMS, promises = "2, 3, 4, 5, 6, 7, 12",
            says = "Of several exceptions the first one told is thrown.")
    static void theFirstExceptionToldIsThrown(LoadStoreRows x) {
        for (int i = 0; i < 32; i++) {
            x.op(LOAD, 2, 0);
        }
        Check.throwsArgument("op: no kind, full", () -> x.op(4, 1, 0));
        Check.throwsArgument("op: no bytes, full", () -> x.op(LOAD, 3, 0));
        Check.throwsArgument("op: a fence's bytes, full", () -> x.op(FENCE, 1, 0));
        Check.throwsUnsupported("op: full", () -> x.op(LOAD, 1, 0));
        Check.throwsIndex("address: no op, no address", () -> x.address(32, -1));
        Check.throwsIndex("source: no op, no byte", () -> x.source(32, 2));
        Check.throwsArgument("source: not done, no byte", () -> x.source(31, 2));
        x.address(31, 20);
        x.tried(31);
        Check.throwsState("source: no byte", () -> x.source(31, 2));
    }

    @Sentence(in = TERMS, promises = "3, 4, 5, 6, 7, 12", says = "For all calls with an op: "
            + "IndexOutOfBoundsException, when there is none with that number.")
    static void noOpWithThatNumber(LoadStoreRows x) {
        noneWithNumbers("new", x, -1, 0, 1, Integer.MIN_VALUE, Integer.MAX_VALUE);
        store(x, 1, 0, 0);
        x.leave();
        fence(x);
        noneWithNumbers("two came", x, -1, 2, 3, 127, 128, 129, Integer.MIN_VALUE, Integer.MAX_VALUE);
        x.forget(1);
        noneWithNumbers("one was forgotten", x, 1, 2);
        LoadStoreRows y = new LoadStoreRows();
        fencesThatLeft(y, 140);
        noneWithNumbers("many came", y, -1, -128, -140, 140, 256, 268);
    }

    private static void noneWithNumbers(String when, LoadStoreRows x, int... numbers) {
        for (int op : numbers) {
            String who = when + ", op " + op + ": ";
            Check.throwsIndex(who + "address", () -> x.address(op, 0));
            Check.throwsIndex(who + "number", () -> x.number(op, 0));
            Check.throwsIndex(who + "tried", () -> x.tried(op));
            Check.throwsIndex(who + "loaded", () -> x.loaded(op));
            Check.throwsIndex(who + "source", () -> x.source(op, 0));
            Check.throwsIndex(who + "forget", () -> x.forget(op));
        }
    }

    @Sentence(in = TERMS, promises = "7, 8, 9, 14", says = "The constants: NONE = -1: Nothing there.")
    static void noneIsMinus1(LoadStoreRows x) {
        Check.due("NONE", LoadStoreRows.NONE, -1);
        Check.due("leave", x.leave(), -1);
        Check.due("drain", x.drain(), -1);
        Check.due("count(9)", x.count(9), -1);
        Check.due("count(10)", x.count(10), -1);
        Check.due("source", x.source(doneLoad(x, 1, 0, 0), 0), -1);
    }
}
