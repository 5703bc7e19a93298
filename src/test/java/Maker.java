import java.util.ArrayList;
import java.util.Arrays;
import java.util.List;
import java.util.Map;
import java.util.Random;
import java.util.TreeMap;

/** Makes modules by chance, most of them right: it follows the types while it writes the code. */
final class Maker {
    private static final int[] NUMBERS = {0, 0, 1, 1, 2, 3, 5, 7, 31, 33, -1, -1, -2, 100, Integer.MIN_VALUE,
        Integer.MAX_VALUE};

    private final Random chance;
    private final Model.Module module = new Model.Module();
    private final List<List<Integer>> codes = new ArrayList<>();

    private Maker(Random chance) {
        this.chance = chance;
    }

    static int[] module(Random chance) {
        Maker maker = new Maker(chance);
        maker.makeRecords();
        maker.makeContracts();
        maker.makeFunctions();
        return maker.bytes();
    }

    private int upTo(int most) {
        return chance.nextInt(most + 1);
    }

    private boolean often(int percent) {
        return chance.nextInt(100) < percent;
    }

    private void makeRecords() {
        int count = 1 + upTo(3);
        for (int r = 0; r < count; r++) {
            List<Model.Type> fields = new ArrayList<>();
            int size = 1 + upTo(often(10) ? 5 : 2);
            boolean plain = r == 0 || often(40);
            for (int f = 0; f < size; f++) {
                int kind = plain ? 0 : upTo(3);
                fields.add(new Model.Type(kind, kind == 1 || kind == 3 ? upTo(count - 1) : 0, 0, 0));
            }
            module.records.add(fields);
        }
    }

    private Model.Type blockType() {
        int r = 0;
        for (int i = 0; i < module.records.size(); i++) {
            if (often(50) && module.records.get(i).stream().allMatch(Model.Type.INT::equals)) {
                r = i;
            }
        }
        return new Model.Type(4, r, 0, 0);
    }

    private void makeContracts() {
        int count = upTo(often(10) ? 4 : 2);
        int[] sizes = new int[count];
        for (int c = 0; c < count; c++) {
            sizes[c] = 1 + upTo(often(10) ? 7 : 3);
        }
        for (int c = 0; c < count; c++) {
            List<Model.State> states = new ArrayList<>();
            for (int s = 0; s < sizes[c]; s++) {
                int turn = s > 0 && often(25) ? 0 : 1 + upTo(1);
                List<Model.Message> messages = new ArrayList<>();
                int k = turn == 0 ? 0 : 1 + upTo(often(30) ? 3 : 1);
                for (int t = 0; t < k; t++) {
                    messages.add(new Model.Message(loadType(sizes), often(20) ? s : upTo(sizes[c] - 1)));
                }
                states.add(new Model.State(turn, messages));
            }
            module.contracts.add(states);
        }
    }

    private Model.Type loadType(int[] sizes) {
        if (often(25)) {
            return null;
        }
        if (often(45)) {
            return often(50) ? Model.Type.INT : blockType();
        }
        int c = upTo(sizes.length - 1);
        return new Model.Type(5, c, often(70) ? 0 : upTo(sizes[c] - 1), upTo(1));
    }

    private Model.Type anyType(boolean pointers) {
        int kind = upTo(5);
        if (kind == 5 && !module.contracts.isEmpty()) {
            int c = upTo(module.contracts.size() - 1);
            return new Model.Type(5, c, often(80) ? 0 : upTo(module.contracts.get(c).size() - 1), upTo(1));
        }
        if (kind == 4) {
            return blockType();
        }
        if (pointers && kind >= 1 && kind <= 3) {
            return new Model.Type(kind, kind == 2 ? 0 : upTo(module.records.size() - 1), 0, 0);
        }
        return Model.Type.INT;
    }

    private void makeFunctions() {
        int count = 1 + upTo(often(10) ? 9 : 4);
        for (int f = 0; f < count; f++) {
            Model.Function function = new Model.Function();
            if (f < 2 * module.contracts.size() && often(70)) {
                function.params.add(new Model.Type(5, f / 2, 0, f % 2));
            }
            while (function.params.size() < 4 && often(30)) {
                function.params.add(anyType(f > 2));
            }
            function.result = f > 1 && often(50) ? anyType(true) : null;
            function.locals = Math.min(10, function.params.size() + upTo(5));
            module.functions.add(function);
        }
        for (Model.Function function : module.functions) {
            Writer writer = new Writer(function);
            writer.write();
            codes.add(writer.code);
        }
    }

    private int[] bytes() {
        List<Integer> all = new ArrayList<>(List.of(83, 77, module.records.size()));
        for (List<Model.Type> record : module.records) {
            all.add(record.size());
            record.forEach(type -> addType(all, type));
        }
        all.add(module.contracts.size());
        for (List<Model.State> contract : module.contracts) {
            all.add(contract.size());
            for (Model.State state : contract) {
                all.add(state.turn());
                all.add(state.messages().size());
                for (Model.Message message : state.messages()) {
                    addType(all, message.load());
                    all.add(message.next());
                }
            }
        }
        all.add(module.functions.size());
        for (int f = 0; f < module.functions.size(); f++) {
            Model.Function function = module.functions.get(f);
            all.add(function.params.size());
            function.params.forEach(type -> addType(all, type));
            addType(all, function.result);
            all.add(function.locals);
            all.add(codes.get(f).size());
            all.addAll(codes.get(f));
        }
        return Asm.row(all);
    }

    private static void addType(List<Integer> bytes, Model.Type type) {
        if (type == null) {
            bytes.add(255);
            return;
        }
        bytes.add(type.kind());
        if (type.kind() == 1 || type.kind() >= 3) {
            bytes.add(type.a());
        }
        if (type.kind() == 5) {
            bytes.add(type.state());
            bytes.add(type.side());
        }
    }

    /** A branch whose T is not written yet. */
    private record Hole(int place, List<Model.Type> stack, List<Model.Type> locals) {
    }

    /** Writes one function's code. */
    private final class Writer {
        final Model.Function function;
        final List<Integer> code = new ArrayList<>();
        List<Model.Type> stack = new ArrayList<>();
        List<Model.Type> locals = new ArrayList<>();
        final List<Hole> holes = new ArrayList<>();
        final Map<Integer, Model.Flow> known = new TreeMap<>();

        Writer(Model.Function function) {
            this.function = function;
        }

        void write() {
            locals.addAll(function.params);
            while (locals.size() < function.locals) {
                locals.add(Model.Type.EMPTY);
            }
            segment(20 + upTo(100));
            while (!holes.isEmpty()) {
                Hole hole = holes.remove(0);
                code.set(hole.place, code.size());
                stack = new ArrayList<>(hole.stack);
                locals = new ArrayList<>(hole.locals);
                segment(code.size() < 150 ? 5 + upTo(25) : 0);
            }
            if (code.size() > 240) {
                code.clear();
                code.add(42);
            }
        }

        void segment(int length) {
            int end = Math.min(code.size() + length, 190);
            for (int tries = 0; code.size() < end && tries < 200; tries++) {
                known.put(code.size(), new Model.Flow(new ArrayList<>(stack), new ArrayList<>(locals)));
                if (!one()) {
                    return;
                }
            }
            finish();
        }

        Model.Type top(int below) {
            return below < stack.size() ? stack.get(stack.size() - 1 - below) : Model.Type.EMPTY;
        }

        Model.Type pop() {
            return stack.remove(stack.size() - 1);
        }

        void emit(int... bytes) {
            for (int b : bytes) {
                code.add(b);
            }
        }

        void push() {
            emit(0);
            emit(Asm.word(often(90) ? NUMBERS[upTo(NUMBERS.length - 1)] : chance.nextInt()));
            stack.add(Model.Type.INT);
        }

        void pushSmall(int most) {
            emit(0);
            emit(Asm.word(often(3) ? -1 : upTo(most)));
            stack.add(Model.Type.INT);
        }

        /** Writes an instruction or some; whether the code goes on behind it. */
        boolean one() {
            Model.Type top = top(0);
            if (stack.size() > 12) {
                return drop();
            }
            if (top.kind() == 5 && often(75)) {
                return useEnd(top);
            }
            if (top.kind() == 4 && often(60)) {
                useBlock(top);
                return true;
            }
            if (top.pointer() && often(60)) {
                usePointer(top);
                return true;
            }
            switch (upTo(15)) {
                case 0, 1 -> push();
                case 2, 3, 4 -> load();
                case 5 -> store();
                case 6 -> calculate();
                case 7 -> make();
                case 8 -> {
                    emit(32, blockType().a());
                    stack.add(new Model.Type(4, code.get(code.size() - 1), 0, 0));
                }
                case 9 -> channel();
                case 10, 11 -> call(often(50));
                case 12 -> branch();
                case 13 -> {
                    if (often(20)) {
                        emit(41);
                    } else if (top.equals(Model.Type.INT)) {
                        emit(43);
                        pop();
                    }
                }
                case 14 -> shuffle();
                default -> {
                    if (often(10)) {
                        emit(1);
                        stack.add(Model.Type.NIL);
                    } else {
                        return drop();
                    }
                }
            }
            return true;
        }

        boolean drop() {
            if (!stack.isEmpty() && !top(0).linear()) {
                emit(4);
                pop();
            } else if (top(0).kind() == 4) {
                emit(35);
                pop();
            } else if (top(0).kind() == 5) {
                return stored(top(0)) || useEnd(top(0));
            }
            return true;
        }

        boolean stored(Model.Type type) {
            for (int l = 0; l < locals.size(); l++) {
                if (!locals.get(l).linear() && (type.linear() || often(30))) {
                    emit(3, l);
                    locals.set(l, pop());
                    return true;
                }
            }
            return false;
        }

        void store() {
            if (!stack.isEmpty()) {
                stored(top(0));
            }
        }

        void load() {
            int first = locals.isEmpty() ? 0 : upTo(locals.size() - 1);
            for (int i = 0; i < locals.size(); i++) {
                int l = (first + i) % locals.size();
                if (!locals.get(l).equals(Model.Type.EMPTY)) {
                    emit(2, l);
                    stack.add(locals.get(l));
                    if (locals.get(l).linear()) {
                        locals.set(l, Model.Type.EMPTY);
                    }
                    return;
                }
            }
        }

        void shuffle() {
            if (often(50) && stack.size() > 1) {
                emit(6);
                Model.Type upper = pop();
                stack.add(stack.size() - 1, upper);
            } else if (!stack.isEmpty() && !top(0).linear()) {
                emit(5);
                stack.add(top(0));
            }
        }

        void calculate() {
            if (!top(0).equals(Model.Type.INT)) {
                push();
            }
            if (!top(1).equals(Model.Type.INT)) {
                push();
            }
            emit(7 + upTo(11));
            pop();
        }

        void make() {
            int r = upTo(module.records.size() - 1);
            switch (upTo(2)) {
                case 0 -> {
                    emit(22, r);
                    stack.add(new Model.Type(1, r, 0, 0));
                }
                case 1 -> {
                    pushSmall(6);
                    emit(25);
                    pop();
                    stack.add(new Model.Type(2, 0, 0, 0));
                }
                default -> {
                    pushSmall(6);
                    emit(26, r);
                    pop();
                    stack.add(new Model.Type(3, r, 0, 0));
                }
            }
        }

        /** Brings a value of that type; whether it could. */
        boolean bring(Model.Type type) {
            for (int l = 0; l < locals.size(); l++) {
                if (locals.get(l).equals(type) && (type.kind() == 5 || often(50))) {
                    emit(2, l);
                    stack.add(type);
                    if (type.linear()) {
                        locals.set(l, Model.Type.EMPTY);
                    }
                    return true;
                }
            }
            switch (type.kind()) {
                case 0 -> push();
                case 1 -> emit(22, type.a());
                case 2 -> {
                    pushSmall(3);
                    pop();
                    emit(25);
                }
                case 3 -> {
                    pushSmall(3);
                    pop();
                    emit(26, type.a());
                }
                case 4 -> emit(32, type.a());
                default -> {
                    return false;
                }
            }
            if (type.kind() != 0) {
                stack.add(type);
            }
            return true;
        }

        void usePointer(Model.Type top) {
            if (often(10)) {
                emit(19);
                pop();
                stack.add(Model.Type.INT);
            } else if (often(20)) {
                stored(top);
            } else if (top.kind() == 1) {
                List<Model.Type> fields = module.records.get(top.a());
                int f = upTo(fields.size() - 1);
                if (often(50)) {
                    emit(23, f);
                    pop();
                    stack.add(fields.get(f));
                } else if (stack.size() < 14) {
                    keepCopy();
                    bringOrNil(fields.get(f));
                    emit(24, f);
                    pop();
                    pop();
                }
            } else {
                useRow(top);
            }
        }

        void useRow(Model.Type top) {
            Model.Type item = top.kind() == 2 ? Model.Type.INT : new Model.Type(1, top.a(), 0, 0);
            keepCopy();
            if (often(20)) {
                emit(27);
                pop();
                stack.add(Model.Type.INT);
                return;
            }
            pushSmall(2);
            if (often(50)) {
                emit(28);
                pop();
                pop();
                stack.add(item);
            } else {
                bringOrNil(item);
                emit(29);
                pop();
                pop();
                pop();
            }
        }

        void keepCopy() {
            if (often(60) && stack.size() < 13) {
                emit(5);
                stack.add(top(0));
            }
        }

        void bringOrNil(Model.Type type) {
            if (type.pointer() && often(30)) {
                emit(1);
                stack.add(Model.Type.NIL);
            } else {
                bring(type);
            }
        }

        void useBlock(Model.Type top) {
            int f = upTo(module.records.get(top.a()).size() - 1);
            switch (upTo(3)) {
                case 0 -> {
                    emit(33, f);
                    stack.add(Model.Type.INT);
                }
                case 1 -> {
                    push();
                    emit(34, f);
                    pop();
                }
                case 2 -> {
                    emit(35);
                    pop();
                }
                default -> stored(top);
            }
        }

        void channel() {
            if (module.contracts.isEmpty() || often(50)) {
                return;
            }
            int c = upTo(module.contracts.size() - 1);
            emit(36, c);
            stack.add(new Model.Type(5, c, 0, 0));
            stack.add(new Model.Type(5, c, 0, 1));
        }

        boolean useEnd(Model.Type end) {
            Model.State state = module.contracts.get(end.a()).get(end.state());
            if (state.turn() == 0) {
                emit(39);
                pop();
                return true;
            }
            if (often(15) && stored(end)) {
                return true;
            }
            if (often(20)) {
                call(true);
                return true;
            }
            if (state.turn() == end.side() + 1) {
                int t = upTo(state.messages().size() - 1);
                Model.Type load = state.messages().get(t).load();
                if (load != null && !bring(load)) {
                    return makeEnd(load);
                }
                emit(37, t);
                if (load != null) {
                    pop();
                }
                pop();
                stack.add(end.in(state.messages().get(t).next()));
                return true;
            }
            if (often(3)) {
                return true;
            }
            return receive(end, state);
        }

        // Two ends come and go to locals, so that a later SEND finds the load that it needs.
        boolean makeEnd(Model.Type load) {
            if (load.state() != 0) {
                return !often(10) || finish();
            }
            emit(36, load.a());
            stack.add(new Model.Type(5, load.a(), 0, 0));
            stack.add(new Model.Type(5, load.a(), 0, 1));
            return stored(top(0)) && stored(top(0)) || finish();
        }

        boolean receive(Model.Type end, Model.State state) {
            int n = state.messages().size();
            if (code.size() > 180 && n > 1) {
                return finish();
            }
            emit(38, n);
            pop();
            int first = code.size();
            for (int t = 0; t < n; t++) {
                code.add(first + n);
                List<Model.Type> with = received(end, state, t);
                // Alike ones may share the code behind, or have code of their own.
                if (t > 0 && (often(30) || !with.equals(received(end, state, 0)))) {
                    holes.add(new Hole(first + t, with, new ArrayList<>(locals)));
                }
            }
            stack = received(end, state, 0);
            return true;
        }

        private List<Model.Type> received(Model.Type end, Model.State state, int t) {
            List<Model.Type> with = new ArrayList<>(stack);
            with.add(end.in(state.messages().get(t).next()));
            if (state.messages().get(t).load() != null) {
                with.add(state.messages().get(t).load());
            }
            return with;
        }

        void call(boolean spawns) {
            int f = upTo(module.functions.size() - 1);
            Model.Function called = module.functions.get(f);
            if (spawns && (called.result != null || called.params.stream().anyMatch(Model.Type::pointer))) {
                return;
            }
            int have = called.params.size();
            while (have > 0 && !endsWith(called.params.subList(0, have))) {
                have--;
            }
            for (int i = have; i < called.params.size(); i++) {
                if (stack.size() > 12 || !bring(called.params.get(i))) {
                    return;
                }
            }
            emit(spawns ? 40 : 30, f);
            for (int i = 0; i < called.params.size(); i++) {
                pop();
            }
            if (called.result != null) {
                stack.add(called.result);
            }
        }

        boolean endsWith(List<Model.Type> types) {
            return types.size() <= stack.size()
                && stack.subList(stack.size() - types.size(), stack.size()).equals(types);
        }

        void branch() {
            if (!top(0).equals(Model.Type.INT)) {
                push();
            }
            emit(21);
            pop();
            int back = jumpTarget();
            if (back >= 0 && often(50)) {
                emit(back);
            } else if (code.size() < 140) {
                holes.add(new Hole(code.size(), new ArrayList<>(stack), new ArrayList<>(locals)));
                emit(0);
            } else {
                emit(code.size() + 1);
            }
        }

        /** A place that what is here may come to, or NONE. */
        int jumpTarget() {
            List<Integer> places = new ArrayList<>();
            for (Map.Entry<Integer, Model.Flow> entry : known.entrySet()) {
                if (entry.getValue().stack().equals(stack) && mayJoin(entry.getValue().locals())) {
                    places.add(entry.getKey());
                }
            }
            return places.isEmpty() ? -1 : places.get(often(50) ? 0 : upTo(places.size() - 1));
        }

        boolean mayJoin(List<Model.Type> others) {
            boolean loose = often(20);
            for (int i = 0; i < locals.size(); i++) {
                Model.Type a = locals.get(i);
                Model.Type b = others.get(i);
                if (!a.equals(b) && (a.linear() || b.linear() || !b.equals(Model.Type.EMPTY) && !loose)) {
                    return false;
                }
            }
            return true;
        }

        /** Ends the code here, as well as it goes. */
        boolean finish() {
            for (int i = 0; i < 20 && !stack.isEmpty() && code.size() < 215; i++) {
                int back = jumpTarget();
                if (back >= 0 && often(70)) {
                    emit(20, back);
                    return false;
                }
                if (top(0).kind() == 5 && module.contracts.get(top(0).a()).get(top(0).state()).turn() == 0) {
                    emit(39);
                    pop();
                } else if (top(0).kind() == 5) {
                    stored(top(0));
                } else {
                    drop();
                }
            }
            int back = jumpTarget();
            if (back >= 0 && often(85)) {
                emit(20, back);
                return false;
            }
            boolean owns = locals.stream().anyMatch(Model.Type::linear);
            if (!owns && stack.isEmpty() && (function.result == null || code.size() < 220 && bring(function.result))) {
                emit(31);
            } else {
                emit(42);
            }
            return false;
        }
    }

    /** A module that is changed somewhere. */
    static int[] spoilt(int[] bytes, Random chance) {
        int[] changed = bytes.clone();
        int place = chance.nextInt(bytes.length);
        switch (chance.nextInt(4)) {
            case 0 -> changed[place] = chance.nextInt(256);
            case 1 -> changed[place] = Math.max(0, Math.min(255, changed[place] + chance.nextInt(5) - 2));
            case 2 -> changed = Arrays.copyOf(changed, place);
            default -> {
                System.arraycopy(bytes, place, changed, 0, bytes.length - place);
                changed = Asm.join(Arrays.copyOf(bytes, place), new int[] {chance.nextInt(50)},
                    Arrays.copyOf(changed, bytes.length - place));
            }
        }
        return changed;
    }
}
