import java.util.ArrayDeque;
import java.util.ArrayList;
import java.util.Arrays;
import java.util.Collections;
import java.util.Deque;
import java.util.HashMap;
import java.util.HashSet;
import java.util.IdentityHashMap;
import java.util.List;
import java.util.Map;
import java.util.Objects;
import java.util.Set;
import java.util.TreeMap;

/**
 * The document again, written in the plainest way the Java library allows and by other means than the class: objects
 * that Java collects, exceptions, sets of what is reached. ModelTest compares the two.
 */
final class Model {
    static final int NONE = -1;

    /** A fault with its place. */
    static final class Fault extends Exception {
        private static final long serialVersionUID = 1;
        final int kind;
        final int place;

        Fault(int kind, int place) {
            this.kind = kind;
            this.place = place;
        }
    }

    /** Code that is not right. */
    static final class Wrong extends Exception {
        private static final long serialVersionUID = 1;
    }

    /** What ends a process. */
    static final class Trap extends Exception {
        private static final long serialVersionUID = 1;
        final int number;

        Trap(int number) {
            this.number = number;
        }
    }

    record Type(int kind, int a, int state, int side) {
        static final Type INT = new Type(0, 0, 0, 0);
        static final Type NIL = new Type(6, 0, 0, 0);
        static final Type EMPTY = new Type(7, 0, 0, 0);

        boolean linear() {
            return kind == 4 || kind == 5;
        }

        boolean pointer() {
            return kind >= 1 && kind <= 3;
        }

        Type in(int newState) {
            return new Type(kind, a, newState, side);
        }
    }

    record Message(Type load, int next) {
    }

    record State(int turn, List<Message> messages) {
    }

    record Ins(int at, int op, int[] args, int next) {
    }

    /** What comes to a place. */
    record Flow(List<Type> stack, List<Type> locals) {
    }

    static final class Function {
        final List<Type> params = new ArrayList<>();
        Type result;
        int locals;
        int start;
        int length;
        final TreeMap<Integer, Ins> code = new TreeMap<>();
        Map<Integer, Flow> flows = new TreeMap<>();
    }

    static final class Module {
        int bytes;
        final List<List<Type>> records = new ArrayList<>();
        final List<List<State>> contracts = new ArrayList<>();
        final List<Function> functions = new ArrayList<>();
        /** Names to be looked at when all is read, by their byte. */
        final TreeMap<Integer, java.util.function.IntPredicate> names = new TreeMap<>();
    }

    // ---- reading

    static final class Reader {
        final int[] bytes;
        int at;

        Reader(int[] bytes) {
            this.bytes = bytes;
        }

        int number(int least, int most) throws Fault {
            if (at == bytes.length || bytes[at] < least || bytes[at] > most) {
                throw new Fault(1, at);
            }
            return bytes[at++];
        }
    }

    static Module decode(int[] bytes) throws Fault {
        Reader in = new Reader(bytes);
        Module m = new Module();
        m.bytes = bytes.length;
        in.number(83, 83);
        in.number(77, 77);
        int records = in.number(0, 8);
        for (int r = 0; r < records; r++) {
            List<Type> fields = new ArrayList<>();
            m.records.add(fields);
            int n = in.number(1, 6);
            for (int f = 0; f < n; f++) {
                fields.add(type(in, m, Set.of(0, 1, 2, 3)));
            }
        }
        int contracts = in.number(0, 4);
        for (int c = 0; c < contracts; c++) {
            List<State> states = new ArrayList<>();
            m.contracts.add(states);
            int n = in.number(1, 8);
            for (int s = 0; s < n; s++) {
                int turn = in.number(0, 2);
                int k = turn == 0 ? in.number(0, 0) : in.number(1, 4);
                List<Message> messages = new ArrayList<>();
                for (int t = 0; t < k; t++) {
                    Type load = type(in, m, Set.of(0, 4, 5, 255));
                    m.names.put(in.at, next -> next < states.size());
                    messages.add(new Message(load, in.number(0, 255)));
                }
                states.add(new State(turn, messages));
            }
        }
        int functions = in.number(1, 10);
        for (int f = 0; f < functions; f++) {
            m.functions.add(function(in, m));
        }
        if (in.at < bytes.length) {
            throw new Fault(1, in.at);
        }
        for (Map.Entry<Integer, java.util.function.IntPredicate> name : m.names.entrySet()) {
            if (!name.getValue().test(bytes[name.getKey()])) {
                throw new Fault(1, name.getKey());
            }
        }
        return m;
    }

    private static Type type(Reader in, Module m, Set<Integer> allowed) throws Fault {
        int kind = in.number(0, 255);
        if (!allowed.contains(kind)) {
            throw new Fault(1, in.at - 1);
        }
        if (kind == 255) {
            return null;
        }
        if (kind == 0 || kind == 2) {
            return new Type(kind, 0, 0, 0);
        }
        if (kind == 5) {
            m.names.put(in.at, c -> c < m.contracts.size());
            int c = in.number(0, 255);
            m.names.put(in.at, s -> c < m.contracts.size() && s < m.contracts.get(c).size());
            int s = in.number(0, 255);
            return new Type(5, c, s, in.number(0, 1));
        }
        return new Type(kind, record(in, m, kind == 4), 0, 0);
    }

    private static int record(Reader in, Module m, boolean ofBlock) throws Fault {
        m.names.put(in.at, r -> r < m.records.size()
            && (!ofBlock || m.records.get(r).stream().allMatch(Type.INT::equals)));
        return in.number(0, 255);
    }

    private static Function function(Reader in, Module m) throws Fault {
        Function f = new Function();
        int params = in.number(0, 4);
        for (int i = 0; i < params; i++) {
            f.params.add(type(in, m, Set.of(0, 1, 2, 3, 4, 5)));
        }
        f.result = type(in, m, Set.of(0, 1, 2, 3, 4, 5, 255));
        f.locals = in.number(params, 10);
        f.length = in.number(1, 240);
        f.start = in.at;
        Reader code = new Reader(Arrays.copyOf(in.bytes, Math.min(f.start + f.length, in.bytes.length)));
        code.at = in.at;
        while (code.at < f.start + f.length) {
            instruction(code, m, f);
        }
        in.at = code.at;
        return f;
    }

    private static void instruction(Reader in, Module m, Function f) throws Fault {
        int at = in.at - f.start;
        int op = in.number(0, 43);
        int[] args;
        switch (op) {
            case 0:
                int k = 0;
                for (int i = 0; i < 4; i++) {
                    k = k * 256 + in.number(0, 255);
                }
                args = new int[] {k};
                break;
            case 2:
            case 3:
                args = new int[] {in.number(0, f.locals - 1)};
                break;
            case 20:
            case 21:
                args = new int[] {target(in, m, f)};
                break;
            case 22:
            case 26:
            case 32:
                args = new int[] {record(in, m, op == 32)};
                break;
            case 23:
            case 24:
            case 33:
            case 34:
                args = new int[] {in.number(0, 5)};
                break;
            case 30:
            case 40:
                m.names.put(in.at, g -> g < m.functions.size());
                args = new int[] {in.number(0, 255)};
                break;
            case 36:
                m.names.put(in.at, c -> c < m.contracts.size());
                args = new int[] {in.number(0, 255)};
                break;
            case 37:
                args = new int[] {in.number(0, 3)};
                break;
            case 38:
                args = new int[in.number(1, 4)];
                for (int i = 0; i < args.length; i++) {
                    args[i] = target(in, m, f);
                }
                break;
            default:
                args = new int[0];
                break;
        }
        f.code.put(at, new Ins(at, op, args, in.at - f.start));
    }

    private static int target(Reader in, Module m, Function f) throws Fault {
        m.names.put(in.at, f.code::containsKey);
        return in.number(0, 255);
    }

    // ---- right code

    static final class Verifier {
        final Module m;
        final Function f;
        final Map<Integer, Flow> now = new TreeMap<>();
        boolean changed = true;

        Verifier(Module m, Function f) {
            this.m = m;
            this.f = f;
        }

        void verify() throws Wrong {
            List<Type> locals = new ArrayList<>(f.params);
            while (locals.size() < f.locals) {
                locals.add(Type.EMPTY);
            }
            comeTo(0, new Flow(List.of(), locals));
            while (changed) {
                changed = false;
                for (int at : new ArrayList<>(now.keySet())) {
                    follow(f.code.get(at), now.get(at));
                }
            }
            f.flows = now;
        }

        void comeTo(int at, Flow flow) throws Wrong {
            if (!f.code.containsKey(at) || flow.stack.size() > 16) {
                throw new Wrong();
            }
            Flow before = now.get(at);
            Flow after = before == null ? flow : joined(before, flow);
            if (!after.equals(before)) {
                now.put(at, after);
                changed = true;
            }
        }

        Flow joined(Flow x, Flow y) throws Wrong {
            if (x.stack.size() != y.stack.size()) {
                throw new Wrong();
            }
            List<Type> stack = new ArrayList<>();
            for (int i = 0; i < x.stack.size(); i++) {
                Type t = one(x.stack.get(i), y.stack.get(i));
                if (t == null) {
                    throw new Wrong();
                }
                stack.add(t);
            }
            List<Type> locals = new ArrayList<>();
            for (int i = 0; i < x.locals.size(); i++) {
                Type a = x.locals.get(i);
                Type b = y.locals.get(i);
                Type t = one(a, b);
                if (t == null && (a.linear() || b.linear())) {
                    throw new Wrong();
                }
                locals.add(t == null ? Type.EMPTY : t);
            }
            return new Flow(stack, locals);
        }

        static Type one(Type x, Type y) {
            if (x.equals(y)) {
                return x;
            }
            if (x.equals(Type.NIL) && y.pointer()) {
                return y;
            }
            return y.equals(Type.NIL) && x.pointer() ? x : null;
        }

        static void must(boolean right) throws Wrong {
            if (!right) {
                throw new Wrong();
            }
        }

        static boolean fits(Type t, Type place) {
            return t.equals(place) || place.pointer() && t.equals(Type.NIL);
        }

        static Type pop(List<Type> s) throws Wrong {
            must(!s.isEmpty());
            return s.remove(s.size() - 1);
        }

        void follow(Ins ins, Flow flow) throws Wrong {
            List<Type> s = new ArrayList<>(flow.stack);
            List<Type> l = new ArrayList<>(flow.locals);
            int arg = ins.args.length > 0 ? ins.args[0] : 0;
            boolean on = true;
            switch (ins.op) {
                case 0 -> s.add(Type.INT);
                case 1 -> s.add(Type.NIL);
                case 2 -> {
                    must(!l.get(arg).equals(Type.EMPTY));
                    s.add(l.get(arg));
                    if (l.get(arg).linear()) {
                        l.set(arg, Type.EMPTY);
                    }
                }
                case 3 -> {
                    must(!l.get(arg).linear());
                    l.set(arg, pop(s));
                }
                case 4 -> must(!pop(s).linear());
                case 5 -> {
                    Type t = pop(s);
                    must(!t.linear());
                    s.add(t);
                    s.add(t);
                }
                case 6 -> {
                    Type t = pop(s);
                    Type u = pop(s);
                    s.add(t);
                    s.add(u);
                }
                case 19 -> {
                    Type t = pop(s);
                    must(t.pointer() || t.equals(Type.NIL));
                    s.add(Type.INT);
                }
                case 20 -> {
                    comeTo(arg, new Flow(s, l));
                    on = false;
                }
                case 21 -> {
                    must(pop(s).equals(Type.INT));
                    comeTo(arg, new Flow(s, l));
                }
                case 22 -> s.add(new Type(1, arg, 0, 0));
                case 23, 24, 27, 28, 29 -> on = onHeap(ins.op, arg, s);
                case 25 -> {
                    must(pop(s).equals(Type.INT));
                    s.add(new Type(2, 0, 0, 0));
                }
                case 26 -> {
                    must(pop(s).equals(Type.INT));
                    s.add(new Type(3, arg, 0, 0));
                }
                case 30, 40 -> {
                    Function g = m.functions.get(arg);
                    for (int i = g.params.size() - 1; i >= 0; i--) {
                        must(fits(pop(s), g.params.get(i)));
                        must(ins.op == 30 || !g.params.get(i).pointer());
                    }
                    must(ins.op == 30 || g.result == null);
                    if (g.result != null) {
                        s.add(g.result);
                    }
                }
                case 31 -> {
                    must(s.size() == (f.result == null ? 0 : 1));
                    must(f.result == null || fits(s.get(0), f.result));
                    must(l.stream().noneMatch(Type::linear));
                    on = false;
                }
                case 32 -> s.add(new Type(4, arg, 0, 0));
                case 33, 34, 35 -> {
                    if (ins.op == 34) {
                        must(pop(s).equals(Type.INT));
                    }
                    Type b = pop(s);
                    must(b.kind == 4 && (ins.op == 35 || arg < m.records.get(b.a).size()));
                    if (ins.op != 35) {
                        s.add(b);
                    }
                    if (ins.op == 33) {
                        s.add(Type.INT);
                    }
                }
                case 36 -> {
                    s.add(new Type(5, arg, 0, 0));
                    s.add(new Type(5, arg, 0, 1));
                }
                case 37 -> {
                    boolean alone = sendsAlone(m, s, arg);
                    Type load = alone ? null : pop(s);
                    Type end = pop(s);
                    must(end.kind == 5);
                    State state = m.contracts.get(end.a).get(end.state);
                    must(state.turn == end.side + 1 && arg < state.messages.size());
                    must(Objects.equals(load, state.messages.get(arg).load));
                    s.add(end.in(state.messages.get(arg).next));
                }
                case 38 -> {
                    Type end = pop(s);
                    must(end.kind == 5);
                    State state = m.contracts.get(end.a).get(end.state);
                    must(state.turn == 2 - end.side && state.messages.size() == ins.args.length);
                    for (int t = 0; t < ins.args.length; t++) {
                        List<Type> with = new ArrayList<>(s);
                        with.add(end.in(state.messages.get(t).next));
                        if (state.messages.get(t).load != null) {
                            with.add(state.messages.get(t).load);
                        }
                        comeTo(ins.args[t], new Flow(with, l));
                    }
                    on = false;
                }
                case 39 -> {
                    Type end = pop(s);
                    must(end.kind == 5 && m.contracts.get(end.a).get(end.state).turn == 0);
                }
                case 41 -> { }
                case 42 -> on = false;
                case 43 -> must(pop(s).equals(Type.INT));
                default -> {
                    must(pop(s).equals(Type.INT));
                    must(pop(s).equals(Type.INT));
                    s.add(Type.INT);
                }
            }
            if (on) {
                comeTo(ins.next, new Flow(s, l));
            }
        }

        boolean onHeap(int op, int field, List<Type> s) throws Wrong {
            Type given = op == 24 || op == 29 ? pop(s) : null;
            if (op == 28 || op == 29) {
                must(pop(s).equals(Type.INT));
            }
            Type on = pop(s);
            if (on.equals(Type.NIL)) {
                return false;
            }
            Type item;
            if (op == 23 || op == 24) {
                must(on.kind == 1 && field < m.records.get(on.a).size());
                item = m.records.get(on.a).get(field);
            } else {
                must(on.kind == 2 || on.kind == 3);
                item = on.kind == 2 ? Type.INT : new Type(1, on.a, 0, 0);
            }
            if (given != null) {
                must(fits(given, item));
            } else {
                s.add(op == 27 ? Type.INT : item);
            }
            return true;
        }
    }

    static boolean sendsAlone(Module m, List<Type> s, int message) {
        Type top = s.isEmpty() ? Type.INT : s.get(s.size() - 1);
        if (top.kind != 5) {
            return false;
        }
        State state = m.contracts.get(top.a).get(top.state);
        return state.turn == top.side + 1 && message < state.messages.size()
            && state.messages.get(message).load == null;
    }

    // ---- what runs

    /** A node or row. */
    static final class Thing {
        final Object[] items;

        Thing(int size, Object filling) {
            items = new Object[size];
            Arrays.fill(items, filling);
        }
    }

    /** What a local is that has nothing. */
    private static final Object EMPTY = new Object();
    /** What a pointer is that points to nothing. */
    private static final Object NIL = new Object();

    static final class Block {
        final int number;
        final int[] fields;
        Object owner;

        Block(int number, int size) {
            this.number = number;
            fields = new int[size];
        }
    }

    static final class End {
        final int channel;
        final int side;
        final List<State> contract;
        End other;
        int state;
        Object owner;
        boolean closed;
        final Deque<Object[]> waiting = new ArrayDeque<>();

        End(int channel, int side, List<State> contract) {
            this.channel = channel;
            this.side = side;
            this.contract = contract;
        }
    }

    static final class Frame {
        final int f;
        final Function function;
        int at;
        final List<Object> stack = new ArrayList<>();
        final Object[] locals;

        Frame(int f, Function function) {
            this.f = f;
            this.function = function;
            locals = new Object[function.locals];
            Arrays.fill(locals, EMPTY);
        }
    }

    static final class Proc {
        int number;
        Module module;
        int shelfPlace;
        int heap;
        int status = 1;
        int trap;
        int steps;
        final Deque<Frame> frames = new ArrayDeque<>();

        boolean over() {
            return status >= 4;
        }
    }

    private final List<Integer> tape = new ArrayList<>();
    final Module[] shelf = new Module[6];
    private int fault = NONE;
    private int faultPlace = NONE;
    private boolean booted;
    private final Proc[] procs = new Proc[12];
    private final Block[] blocks = new Block[256];
    private final End[][] channels = new End[12][];
    private final List<int[]> outs = new ArrayList<>();
    private int steps;
    private int turn;
    private int inTurn;

    int feed(int a, int b, int c, int d, int e) {
        if (tape.size() > 1980) {
            return NONE;
        }
        for (int k : new int[] {a, b, c, d, e}) {
            tape.addAll(List.of(k >>> 24, k >> 16 & 255, k >> 8 & 255, k & 255));
        }
        return tape.size();
    }

    private int[] takeTape(int n) {
        int[] bytes = tape.stream().limit(n).mapToInt(Integer::intValue).toArray();
        tape.clear();
        return bytes;
    }

    int load(int n) {
        if (n < 0 || n > tape.size()) {
            return -2;
        }
        try {
            Module m = decode(takeTape(n));
            for (Function f : m.functions) {
                try {
                    new Verifier(m, f).verify();
                } catch (Wrong w) {
                    throw new Fault(2, f.start);
                }
            }
            fault = 0;
            faultPlace = NONE;
            for (int i = 0; i < 6; i++) {
                if (shelf[i] == null) {
                    shelf[i] = m;
                    return i;
                }
            }
        } catch (Fault found) {
            fault = found.kind;
            faultPlace = found.place;
        }
        return NONE;
    }

    int fault(int what) {
        return what == 0 ? fault : what == 1 ? faultPlace : NONE;
    }

    private Module at(int m) {
        return m >= 0 && m < 6 ? shelf[m] : null;
    }

    boolean discard(int m) {
        if (at(m) == null) {
            return false;
        }
        shelf[m] = null;
        return true;
    }

    int module(int m, int f, int what) {
        Module mod = at(m);
        if (mod == null) {
            return NONE;
        }
        if (what >= 0 && what <= 3) {
            return new int[] {mod.records.size(), mod.contracts.size(), mod.functions.size(), mod.bytes}[what];
        }
        if (what < 10 || what > 14 || f < 0 || f >= mod.functions.size()) {
            return NONE;
        }
        Function g = mod.functions.get(f);
        int most = g.flows.values().stream().mapToInt(flow -> flow.stack.size()).max().orElse(0);
        return new int[] {g.params.size(), g.locals, g.length, g.start, most}[what - 10];
    }

    int typeAt(int m, int f, int place, int what, int i) {
        Module mod = at(m);
        if (mod == null || f < 0 || f >= mod.functions.size() || !mod.functions.get(f).flows.containsKey(place)) {
            return NONE;
        }
        Flow flow = mod.functions.get(f).flows.get(place);
        List<Type> types = what == 0 ? flow.stack : what == 1 ? flow.locals : List.of();
        return i >= 0 && i < types.size() ? types.get(i).kind : NONE;
    }

    // ---- manifests

    /** A use of a number: by which process, as which parameter. */
    record Use(int process, int param, Module module, Type type) {
    }

    int boot(int n) {
        if (n < 0 || n > tape.size()) {
            return -2;
        }
        List<Proc> started = new ArrayList<>();
        Map<Integer, List<Use>> uses = new HashMap<>();
        List<Integer> order = new ArrayList<>();
        try {
            readManifest(new Reader(takeTape(n)), started, uses, order);
        } catch (Fault found) {
            fault = found.kind;
            faultPlace = found.place;
            return NONE;
        }
        fault = 0;
        faultPlace = NONE;
        booted = true;
        steps = 0;
        turn = 0;
        inTurn = 0;
        outs.clear();
        Arrays.fill(procs, null);
        Arrays.fill(blocks, null);
        Arrays.fill(channels, null);
        for (int p = 0; p < started.size(); p++) {
            procs[p] = started.get(p);
            procs[p].number = p;
        }
        for (int c = 0; c < order.size(); c++) {
            Use first = uses.get(order.get(c)).get(0);
            openChannel(c, first.module.contracts.get(first.type.a));
            for (Use use : uses.get(order.get(c))) {
                End end = channels[c][use.type.side];
                end.owner = procs[use.process];
                procs[use.process].frames.peek().locals[use.param] = end;
            }
        }
        return started.size();
    }

    private void openChannel(int c, List<State> contract) {
        channels[c] = new End[] {new End(c, 0, contract), new End(c, 1, contract)};
        channels[c][0].other = channels[c][1];
        channels[c][1].other = channels[c][0];
    }

    private void readManifest(Reader in, List<Proc> started, Map<Integer, List<Use>> uses, List<Integer> order)
        throws Fault {
        in.number(83, 83);
        in.number(70, 70);
        int count = in.number(1, 6);
        for (int p = 0; p < count; p++) {
            int m = in.number(0, 255);
            if (at(m) == null) {
                throw new Fault(3, in.at - 1);
            }
            int f = in.number(0, 255);
            List<Function> functions = at(m).functions;
            if (f >= functions.size() || functions.get(f).result != null || functions.get(f).params.stream()
                .anyMatch(t -> t.kind != 0 && (t.kind != 5 || t.state != 0))) {
                throw new Fault(4, in.at - 1);
            }
            Proc proc = new Proc();
            proc.module = at(m);
            proc.shelfPlace = m;
            proc.heap = 16 * in.number(1, 64);
            Frame frame = new Frame(f, functions.get(f));
            proc.frames.push(frame);
            for (int i = 0; i < frame.function.params.size(); i++) {
                Type t = frame.function.params.get(i);
                if (t.kind == 0) {
                    frame.locals[i] = in.number(0, 255) << 24 | in.number(0, 255) << 16 | in.number(0, 255) << 8
                        | in.number(0, 255);
                } else {
                    useNumber(in, new Use(p, i, proc.module, t), uses, order);
                }
            }
            started.add(proc);
        }
        if (in.at < in.bytes.length) {
            throw new Fault(1, in.at);
        }
        if (uses.values().stream().anyMatch(list -> list.size() == 1)) {
            throw new Fault(6, in.at);
        }
    }

    private static void useNumber(Reader in, Use use, Map<Integer, List<Use>> uses, List<Integer> order)
        throws Fault {
        int number = in.number(0, 7);
        List<Use> before = uses.computeIfAbsent(number, k -> new ArrayList<>());
        if (before.isEmpty()) {
            order.add(number);
        } else {
            Use first = before.get(0);
            if (before.size() == 2 || first.type.side == use.type.side
                || !alike(first.module, first.type.a, use.module, use.type.a, new HashSet<>())) {
                throw new Fault(5, in.at - 1);
            }
        }
        before.add(use);
    }

    private static boolean alike(Module m, int c, Module n, int d, Set<List<Integer>> met) {
        if (!met.add(List.of(c, d))) {
            return true;
        }
        List<State> x = m.contracts.get(c);
        List<State> y = n.contracts.get(d);
        boolean same = x.size() == y.size();
        for (int s = 0; same && s < x.size(); s++) {
            List<Message> a = x.get(s).messages;
            List<Message> b = y.get(s).messages;
            same = x.get(s).turn == y.get(s).turn && a.size() == b.size();
            for (int t = 0; same && t < a.size(); t++) {
                Type i = a.get(t).load;
                Type j = b.get(t).load;
                same = a.get(t).next == b.get(t).next && (i == null) == (j == null);
                if (same && i != null) {
                    same = i.kind == j.kind
                        && (i.kind != 4 || m.records.get(i.a).size() == n.records.get(j.a).size())
                        && (i.kind != 5 || i.state == j.state && i.side == j.side && alike(m, i.a, n, j.a, met));
                }
            }
        }
        return same;
    }

    // ---- running

    int run(int n) {
        if (!booted || n < 0 || n > 10000) {
            return NONE;
        }
        int done = 0;
        Set<Integer> found = new HashSet<>();
        while (done < n) {
            Proc p = procs[turn];
            boolean turnOver;
            if (p == null || p.over()) {
                found.add(turn);
                turnOver = true;
            } else {
                p.status = waits(p);
                if (p.status != 1) {
                    found.add(turn);
                    turnOver = true;
                } else {
                    int op = ins(p).op;
                    step(p);
                    done++;
                    found.clear();
                    inTurn++;
                    turnOver = op == 41 || p.over() || inTurn == 8;
                }
            }
            if (turnOver) {
                turn = (turn + 1) % 12;
                inTurn = 0;
            }
            if (found.size() == 12) {
                break;
            }
        }
        return done;
    }

    private static Ins ins(Proc p) {
        Frame frame = p.frames.peek();
        return frame.function.code.get(frame.at);
    }

    private static boolean alone(Proc p, int message) {
        Frame frame = p.frames.peek();
        return sendsAlone(p.module, frame.function.flows.get(frame.at).stack, message);
    }

    private static int waits(Proc p) {
        Ins ins = ins(p);
        List<Object> s = p.frames.peek().stack;
        if (ins.op == 38) {
            return ((End) s.get(s.size() - 1)).waiting.isEmpty() ? 2 : 1;
        }
        if (ins.op == 37) {
            End end = (End) s.get(s.size() - (alone(p, ins.args[0]) ? 1 : 2));
            return end.other.waiting.size() == 4 ? 3 : 1;
        }
        return 1;
    }

    private void step(Proc p) {
        steps++;
        p.steps++;
        try {
            doIt(p);
        } catch (Trap t) {
            p.trap = t.number;
            end(p, 5);
        }
    }

    private void end(Proc p, int status) {
        p.status = status;
        p.frames.clear();
        loseAll(p);
    }

    private void loseAll(Object owner) {
        for (int b = 0; b < blocks.length; b++) {
            if (blocks[b] != null && blocks[b].owner == owner) {
                blocks[b] = null;
            }
        }
        for (End[] channel : channels.clone()) {
            for (int side = 0; channel != null && side < 2; side++) {
                if (!channel[side].closed && channel[side].owner == owner) {
                    close(channel[side]);
                }
            }
        }
    }

    private void close(End end) {
        end.closed = true;
        if (end.other.closed) {
            channels[end.channel] = null;
        }
        List<Object[]> gone = new ArrayList<>(end.waiting);
        end.waiting.clear();
        for (Object[] message : gone) {
            lose(message[1]);
        }
    }

    private void lose(Object load) {
        if (load instanceof Block b) {
            blocks[b.number] = null;
        } else if (load instanceof End e) {
            close(e);
        }
    }

    private static void give(Object what, Object owner) {
        if (what instanceof Block b) {
            b.owner = owner;
        } else if (what instanceof End e) {
            e.owner = owner;
        }
    }

    private static Object pop(Frame frame) {
        return frame.stack.remove(frame.stack.size() - 1);
    }

    private void doIt(Proc p) throws Trap {
        Frame frame = p.frames.peek();
        List<Object> s = frame.stack;
        Ins ins = ins(p);
        int arg = ins.args.length > 0 ? ins.args[0] : 0;
        boolean alone = ins.op == 37 && alone(p, arg);
        frame.at = ins.next;
        switch (ins.op) {
            case 0 -> s.add(arg);
            case 1 -> s.add(NIL);
            case 2 -> {
                s.add(frame.locals[arg]);
                if (frame.locals[arg] instanceof Block || frame.locals[arg] instanceof End) {
                    frame.locals[arg] = EMPTY;
                }
            }
            case 3 -> frame.locals[arg] = pop(frame);
            case 4 -> pop(frame);
            case 5 -> s.add(s.get(s.size() - 1));
            case 6 -> Collections.swap(s, s.size() - 1, s.size() - 2);
            case 19 -> s.add(pop(frame) == NIL ? 1 : 0);
            case 20 -> frame.at = arg;
            case 21 -> {
                if ((int) pop(frame) == 0) {
                    frame.at = arg;
                }
            }
            case 22 -> {
                List<Type> fields = p.module.records.get(arg);
                Thing node = room(p, fields.size(), 0);
                for (int i = 0; i < fields.size(); i++) {
                    node.items[i] = fields.get(i).kind == 0 ? (Object) 0 : NIL;
                }
                s.add(node);
            }
            case 25, 26 -> {
                int size = (int) pop(frame);
                if (size < 0) {
                    throw new Trap(4);
                }
                s.add(room(p, size, ins.op == 25 ? 0 : NIL));
            }
            case 23, 24, 27, 28, 29 -> onHeap(ins.op, arg, frame);
            case 30 -> {
                if (p.frames.size() == 16) {
                    throw new Trap(9);
                }
                Frame called = new Frame(arg, p.module.functions.get(arg));
                for (int i = called.function.params.size() - 1; i >= 0; i--) {
                    called.locals[i] = pop(frame);
                }
                p.frames.push(called);
            }
            case 31 -> {
                p.frames.pop();
                if (p.frames.isEmpty()) {
                    end(p, 4);
                } else if (frame.function.result != null) {
                    p.frames.peek().stack.add(pop(frame));
                }
            }
            case 32 -> s.add(block(p, p.module.records.get(arg).size()));
            case 33 -> s.add(((Block) s.get(s.size() - 1)).fields[arg]);
            case 34 -> {
                int k = (int) pop(frame);
                ((Block) s.get(s.size() - 1)).fields[arg] = k;
            }
            case 35, 39 -> lose(pop(frame));
            case 36 -> {
                int c = Arrays.asList(channels).indexOf(null);
                if (c < 0) {
                    throw new Trap(7);
                }
                openChannel(c, p.module.contracts.get(arg));
                for (End end : channels[c]) {
                    end.owner = p;
                    s.add(end);
                }
            }
            case 37 -> send(frame, arg, alone ? null : pop(frame));
            case 38 -> {
                End end = (End) s.get(s.size() - 1);
                Object[] message = end.waiting.poll();
                end.state = end.contract.get(end.state).messages.get((int) message[0]).next;
                if (message[1] != null) {
                    give(message[1], p);
                    s.add(message[1]);
                }
                frame.at = ins.args[(int) message[0]];
            }
            case 40 -> spawn(p, frame, arg);
            case 41 -> { }
            case 42 -> end(p, 4);
            case 43 -> {
                int k = (int) pop(frame);
                if (outs.size() == 500) {
                    throw new Trap(10);
                }
                outs.add(new int[] {p.number, k});
            }
            default -> {
                int b = (int) pop(frame);
                int a = (int) pop(frame);
                s.add(calculate(ins.op, a, b));
            }
        }
    }

    private static int calculate(int op, int a, int b) throws Trap {
        if ((op == 10 || op == 11) && b == 0) {
            throw new Trap(3);
        }
        long quotient = b == 0 ? 0 : (long) a / b;
        return switch (op) {
            case 7 -> (int) ((long) a + b);
            case 8 -> (int) ((long) a - b);
            case 9 -> (int) ((long) a * b);
            case 10 -> (int) quotient;
            case 11 -> (int) (a - quotient * b);
            case 12 -> a & b;
            case 13 -> a | b;
            case 14 -> a ^ b;
            case 15 -> (int) ((long) a << (b & 31));
            case 16 -> (int) Math.floorDiv((long) a, 1L << (b & 31));
            case 17 -> (long) a - b < 0 ? 1 : 0;
            default -> a == b ? 1 : 0;
        };
    }

    private static Thing room(Proc p, int size, Object filling) throws Trap {
        if (reached(p) + size + 1L > p.heap) {
            throw new Trap(5);
        }
        return new Thing(size, filling);
    }

    private static long reached(Proc p) {
        Set<Thing> met = Collections.newSetFromMap(new IdentityHashMap<>());
        Deque<Object> todo = new ArrayDeque<>();
        for (Frame frame : p.frames) {
            todo.addAll(frame.stack);
            todo.addAll(Arrays.asList(frame.locals));
        }
        long cells = 0;
        while (!todo.isEmpty()) {
            if (todo.pop() instanceof Thing thing && met.add(thing)) {
                cells += thing.items.length + 1;
                todo.addAll(Arrays.asList(thing.items));
            }
        }
        return cells;
    }

    private static void onHeap(int op, int field, Frame frame) throws Trap {
        Object given = op == 24 || op == 29 ? pop(frame) : null;
        int i = op == 28 || op == 29 ? (int) pop(frame) : field;
        Object on = pop(frame);
        if (on == NIL) {
            throw new Trap(1);
        }
        Object[] items = ((Thing) on).items;
        if (op == 27) {
            frame.stack.add(items.length);
            return;
        }
        if (i < 0 || i >= items.length) {
            throw new Trap(2);
        }
        if (given == null) {
            frame.stack.add(items[i]);
        } else {
            items[i] = given;
        }
    }

    private Block block(Proc p, int size) throws Trap {
        if (blockCells() + size + 1 > 256) {
            throw new Trap(6);
        }
        int b = Arrays.asList(blocks).indexOf(null);
        blocks[b] = new Block(b, size);
        blocks[b].owner = p;
        return blocks[b];
    }

    private int blockCells() {
        return Arrays.stream(blocks).filter(Objects::nonNull).mapToInt(b -> b.fields.length + 1).sum();
    }

    private void send(Frame frame, int message, Object load) {
        End end = (End) frame.stack.get(frame.stack.size() - 1);
        end.state = end.contract.get(end.state).messages.get(message).next;
        if (end.other.closed) {
            lose(load);
        } else {
            end.other.waiting.add(new Object[] {message, load});
            give(load, end.other);
        }
    }

    private void spawn(Proc p, Frame frame, int f) throws Trap {
        int number = 0;
        while (number < 12 && procs[number] != null && !procs[number].over()) {
            number++;
        }
        if (number == 12) {
            throw new Trap(8);
        }
        Proc child = new Proc();
        child.number = number;
        child.module = p.module;
        child.shelfPlace = p.shelfPlace;
        child.heap = p.heap;
        Frame first = new Frame(f, p.module.functions.get(f));
        for (int i = first.function.params.size() - 1; i >= 0; i--) {
            first.locals[i] = pop(frame);
            give(first.locals[i], child);
        }
        child.frames.push(first);
        procs[number] = child;
    }

    // ---- how things are

    int about(int what) {
        if (!booted) {
            return NONE;
        }
        return switch (what) {
            case 0 -> steps;
            case 1 -> Arrays.stream(procs).anyMatch(p -> p != null && !p.over() && waits(p) == 1) ? 0 : 1;
            case 2 -> (int) Arrays.stream(procs).filter(p -> p != null && !p.over()).count();
            case 3 -> (int) Arrays.stream(channels).filter(Objects::nonNull).count();
            case 4 -> (int) Arrays.stream(blocks).filter(Objects::nonNull).count();
            case 5 -> blockCells();
            case 6 -> outs.size();
            default -> NONE;
        };
    }

    int process(int p, int what) {
        if (p < 0 || p >= 12 || procs[p] == null) {
            return NONE;
        }
        Proc proc = procs[p];
        Frame frame = proc.frames.peek();
        if (what >= 3 && what <= 7 && frame == null) {
            return 0;
        }
        return switch (what) {
            case 0 -> proc.status;
            case 1 -> proc.trap;
            case 2 -> proc.shelfPlace;
            case 3 -> frame.f;
            case 4 -> frame.at;
            case 5 -> proc.frames.size();
            case 6 -> frame.stack.size();
            case 7 -> (int) reached(proc);
            case 8 -> proc.heap;
            case 9 -> proc.steps;
            default -> NONE;
        };
    }

    int value(int p, int what, int i) {
        if (p < 0 || p >= 12 || procs[p] == null || procs[p].frames.isEmpty() || what < 0 || what > 1) {
            return Integer.MIN_VALUE;
        }
        Frame frame = procs[p].frames.peek();
        List<Object> values = what == 0 ? frame.stack : Arrays.asList(frame.locals);
        if (i < 0 || i >= values.size()) {
            return Integer.MIN_VALUE;
        }
        Object v = values.get(i);
        if (v instanceof Integer k) {
            return k;
        }
        if (v instanceof Block b) {
            return b.number;
        }
        if (v instanceof End e) {
            return 2 * e.channel + e.side;
        }
        return v instanceof Thing ? 1 : 0;
    }

    private static int owner(Object owner) {
        if (owner instanceof Proc p) {
            return p.number;
        }
        End end = (End) owner;
        return 100 + 2 * end.channel + end.side;
    }

    int block(int b, int what) {
        if (b < 0 || b >= 256 || blocks[b] == null) {
            return NONE;
        }
        if (what == 0) {
            return blocks[b].fields.length;
        }
        if (what == 1) {
            return owner(blocks[b].owner);
        }
        return what >= 10 && what < 10 + blocks[b].fields.length ? blocks[b].fields[what - 10] : NONE;
    }

    int channel(int c, int side, int what) {
        if (c < 0 || c >= 12 || side < 0 || side > 1 || channels[c] == null || channels[c][side].closed) {
            return NONE;
        }
        End end = channels[c][side];
        return what == 0 ? end.state : what == 1 ? owner(end.owner) : what == 2 ? end.waiting.size() : NONE;
    }

    int output(int i, int what) {
        return i >= 0 && i < outs.size() && (what == 0 || what == 1) ? outs.get(i)[what] : NONE;
    }
}
