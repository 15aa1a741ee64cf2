import java.util.ArrayDeque;
import java.util.ArrayList;
import java.util.Deque;
import java.util.HashMap;
import java.util.Iterator;
import java.util.List;
import java.util.Map;
import java.util.TreeSet;

/** The document told once more, as plainly as the Java library lets it, to compare long runs with. */
final class PlainModel {
    private static final class Op {
        int no;
        int kind;
        int program;
        int size;
        Integer at;
        Integer v;
        boolean done;
        boolean left;
        Integer loaded;
        final List<String> from = new ArrayList<>();

        boolean has(int place) {
            return at != null && at <= place && place < at + size;
        }

        int byteAt(int place) {
            return (int) ((Integer.toUnsignedLong(v) >> (8 * (at + size - 1 - place))) % 256);
        }

        boolean device() {
            return at != null && at >= 3072;
        }
    }

    private final List<Op> all = new ArrayList<>();
    private final Deque<Op> buffer = new ArrayDeque<>();
    private final Map<Integer, Integer> memory = new HashMap<>();
    private final TreeSet<Integer> marks = new TreeSet<>();
    private int undone;
    private int wrong;
    private int fromStores;
    private int fromElsewhere;

    private List<Op> waiting() {
        return all.stream().filter(o -> !o.left).toList();
    }

    private Op find(int op) {
        if (op < 0 || op >= all.size()) {
            throw new IndexOutOfBoundsException();
        }
        return all.get(op);
    }

    private static void argument(boolean fine) {
        if (!fine) {
            throw new IllegalArgumentException();
        }
    }

    /** The ops that a call with that name is meant for. */
    List<Integer> meantFor(String name) {
        return waiting().stream().filter(o -> switch (name) {
            case "address" -> o.kind != 2 && o.at == null;
            case "number" -> (o.kind == 1 || o.kind == 3) && o.v == null;
            case "tried" -> o.kind == 0 && o.at != null && !o.done;
            case "source", "loaded" -> o.done;
            default -> true;
        }).map(o -> o.no).toList();
    }

    int op(int kind, int bytes, int program) {
        argument(kind == 2 ? bytes == 0 : List.of(0, 1, 3).contains(kind) && List.of(1, 2, 4).contains(bytes));
        if (waiting().size() == 32) {
            throw new UnsupportedOperationException();
        }
        Op o = new Op();
        o.no = all.size();
        o.kind = kind;
        o.size = bytes;
        o.program = Math.floorMod(program, 64);
        all.add(o);
        return o.no;
    }

    int address(int op, int at) {
        Op o = find(op);
        argument(o.kind != 2 && !o.left && o.at == null);
        argument(at >= 0 && at <= 4096 - o.size);
        argument(at >= 3072 == at + o.size - 1 >= 3072);
        o.at = at;
        if (o.kind != 1) {
            return 0;
        }
        for (Op load : waiting()) {
            if (load.no > op && load.done) {
                for (int k = 0; k < load.size; k++) {
                    String from = load.from.get(k);
                    boolean older = from.equals("buffer") || from.equals("memory") || Integer.parseInt(from) < op;
                    if (o.has(load.at + k) && older) {
                        marks.add(load.program);
                        return undo(load);
                    }
                }
            }
        }
        return 0;
    }

    private int undo(Op first) {
        int n = 0;
        for (Op load : waiting()) {
            if (load.no >= first.no && load.done) {
                load.done = false;
                load.loaded = null;
                load.from.clear();
                n++;
            }
        }
        undone += n;
        wrong++;
        return n;
    }

    int number(int op, int v) {
        Op o = find(op);
        argument((o.kind == 1 || o.kind == 3) && !o.left && o.v == null);
        o.v = v;
        return o.size;
    }

    int tried(int op) {
        Op load = find(op);
        argument(load.kind == 0 && !load.left && load.at != null && !load.done);
        List<Op> older = waiting().stream().filter(o -> o.no < op).toList();
        if (older.stream().anyMatch(o -> o.kind >= 2)) {
            return 2;
        }
        if (load.device() && (!older.isEmpty() || !buffer.isEmpty())) {
            return 2;
        }
        if (marks.contains(load.program) && older.stream().anyMatch(o -> o.kind == 1 && o.at == null)) {
            return 3;
        }
        long number = 0;
        List<String> from = new ArrayList<>();
        for (int place = load.at; place < load.at + load.size; place++) {
            Op store = newest(older, place);
            if (store != null && store.v == null) {
                return 4;
            }
            Op held = newest(buffer, place);
            from.add(store != null ? "" + store.no : held != null ? "buffer" : "memory");
            number = number * 256 + (store != null ? store.byteAt(place)
                    : held != null ? held.byteAt(place) : memory.getOrDefault(place, 0));
        }
        load.done = true;
        load.loaded = (int) number;
        load.from.addAll(from);
        int stores = (int) from.stream().filter(f -> !f.equals("buffer") && !f.equals("memory")).count();
        fromStores += stores;
        fromElsewhere += load.size - stores;
        return 1;
    }

    private static Op newest(Iterable<Op> ops, int place) {
        Op newest = null;
        for (Iterator<Op> i = ops.iterator(); i.hasNext();) {
            Op o = i.next();
            newest = o.kind == 1 && o.has(place) ? o : newest;
        }
        return newest;
    }

    int loaded(int op) {
        Op o = find(op);
        if (all.size() > op + 64) {
            throw new IllegalStateException();
        }
        argument(o.loaded != null);
        return o.loaded;
    }

    int source(int op, int k) {
        Op o = find(op);
        argument(o.kind == 0 && o.done && !o.left);
        if (k < 0 || k >= o.size) {
            throw new IllegalStateException();
        }
        String from = o.from.get(k);
        return from.equals("buffer") || from.equals("memory") ? -1 : Integer.parseInt(from);
    }

    int leave() {
        if (waiting().isEmpty()) {
            return -1;
        }
        Op o = waiting().get(0);
        boolean told = o.at != null && o.v != null;
        boolean may = o.kind == 0 && o.done
                || o.kind == 1 && told && (o.device() ? buffer.isEmpty() : buffer.size() < 4)
                || o.kind == 2 && buffer.isEmpty()
                || o.kind == 3 && told && buffer.isEmpty();
        if (!may) {
            return -1;
        }
        o.left = true;
        if (o.kind == 3) {
            long number = 0;
            for (int place = o.at; place < o.at + o.size; place++) {
                number = number * 256 + memory.getOrDefault(place, 0);
            }
            o.loaded = (int) number;
            write(o);
        }
        if (o.kind == 1) {
            buffer.addLast(o);
            if (o.device()) {
                drain();
            }
        }
        return o.no;
    }

    private void write(Op o) {
        for (int place = o.at; place < o.at + o.size; place++) {
            memory.put(place, o.byteAt(place));
        }
    }

    int drain() {
        if (buffer.isEmpty()) {
            return -1;
        }
        Op o = buffer.removeFirst();
        write(o);
        return o.no;
    }

    int other(int at, int v) {
        argument(at >= 0 && at < 4096 && v >= 0 && v < 256);
        memory.put(at, v);
        for (Op load : waiting()) {
            if (load.done && load.has(at) && load.from.get(at - load.at).equals("memory")) {
                return undo(load);
            }
        }
        return 0;
    }

    int memory(int at) {
        argument(at >= 0 && at < 4096);
        return memory.getOrDefault(at, 0);
    }

    int forget(int op) {
        argument(!find(op).left);
        int n = 0;
        while (all.size() > op) {
            all.remove(all.size() - 1);
            n++;
        }
        return n;
    }

    boolean marked(int program) {
        return marks.contains(Math.floorMod(program, 64));
    }

    int count(int what) {
        List<Op> waiting = waiting();
        List<Integer> counts = List.of(all.size(), waiting.size(), buffer.size(),
                (int) waiting.stream().filter(o -> o.done).count(), undone, wrong, fromStores, fromElsewhere,
                marks.size(), waiting.isEmpty() ? -1 : waiting.get(0).no);
        return what >= 0 && what < counts.size() ? counts.get(what) : -1;
    }
}
