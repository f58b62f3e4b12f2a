import java.util.ArrayList;
import java.util.List;
import java.util.function.IntPredicate;
import java.util.function.LongSupplier;

/** The document told a second time, in lists and functions, for ModelTest to hold answers against. */
final class Model {
    private enum State { IDLE, CALLED, TOLD, CHECKING, TELLING }

    private record Shape(int many, boolean gives) { }

    private record StandIn(int type, int kind) { }

    private record Matcher(IntPredicate test, int size, boolean catches) { }

    private record Answer(int kind, int v) { }

    private static final class Call {
        int number;
        int standIn;
        int method;
        int[] values;
        List<Matcher> matchers;
        boolean seen;
        int by = -1;
    }

    private static final class Telling {
        Call pattern;
        List<Answer> answers = new ArrayList<>();
        int answered;
        boolean gone;
    }

    private final Shape[][] shapes = new Shape[3][4];
    private final List<StandIn> standIns = new ArrayList<>();
    private final List<Matcher> stack = new ArrayList<>();
    private final List<Call> calls = new ArrayList<>();
    private final List<Telling> tellings = new ArrayList<>();
    private final List<Answer> prepared = new ArrayList<>();
    private final List<Integer> caught = new ArrayList<>();
    private List<Call> found = null;
    private boolean passed;
    private State state = State.IDLE;
    private int subject;
    private int mode;
    private int modeNumber;
    private int place = -1;
    private int misuses;
    private int numbers;

    Model() {
        for (Shape[] row : shapes) {
            for (int m = 0; m < 4; m++) {
                row[m] = new Shape(0, true);
            }
        }
    }

    private Telling last() {
        return tellings.get(tellings.size() - 1);
    }

    private boolean openTelling() {
        return state == State.TELLING && last().answers.isEmpty();
    }

    private boolean waiting() {
        return state == State.TOLD || state == State.CHECKING;
    }

    private long step(boolean unfinished, boolean misplaced, boolean wrong, LongSupplier deed) {
        int misuse = unfinished ? -3 : misplaced ? -4 : wrong ? -5 : 0;
        if (misuse == 0) {
            return deed.getAsLong();
        }
        misuses++;
        if (openTelling()) {
            last().gone = true;
        }
        stack.clear();
        prepared.clear();
        state = State.IDLE;
        return misuse;
    }

    private long plain(boolean wrong, State behind, LongSupplier deed) {
        return step(waiting() || openTelling(), !stack.isEmpty(), wrong, () -> {
            long answer = deed.getAsLong();
            state = behind;
            return answer;
        });
    }

    private boolean missing(int standIn) {
        return standIn < 0 || standIn >= standIns.size();
    }

    /** Whether a CALL of this METHOD may end what is open: for runs that are to go on without MISUSE. */
    boolean fits(int standIn, int m) {
        if (missing(standIn) || m < 0 || m > 3) {
            return false;
        }
        boolean enough = stack.isEmpty() || stack.size() == shape(standIn, m).many();
        return enough && (!waiting() || standIn == subject);
    }

    long define(int t, int m, int many, boolean gives) {
        if (t < 0 || t > 2 || m < 0 || m > 3 || many < 0 || many > 2) {
            return -1;
        }
        if (!standIns.isEmpty()) {
            return -2;
        }
        return plain(false, State.IDLE, () -> {
            shapes[t][m] = new Shape(many, gives);
            return 1;
        });
    }

    long make(int type, int kind) {
        if (type < 0 || type > 2 || kind < 0 || kind > 2) {
            return -1;
        }
        if (standIns.size() == 6) {
            return -2;
        }
        return plain(false, State.IDLE, () -> {
            standIns.add(new StandIn(type, kind));
            return standIns.size() - 1;
        });
    }

    long matcher(int kind, int v) {
        if (kind < 0 || kind > 7) {
            return -1;
        }
        int takes = kind == 4 || kind == 5 ? 2 : kind == 6 ? 1 : 0;
        int left = stack.size() - takes;
        if (takes == 0 && stack.size() == 6) {
            return -2;
        }
        List<Matcher> parts = left < 0 ? List.of() : List.copyOf(stack.subList(left, stack.size()));
        int size = 1 + parts.stream().mapToInt(Matcher::size).sum();
        if (size > 8) {
            return -2;
        }
        return step(openTelling(), false, left < 0, () -> {
            stack.subList(left, stack.size()).clear();
            stack.add(new Matcher(test(kind, v, parts), size, kind == 7));
            state = waiting() ? state : State.IDLE;
            return stack.size();
        });
    }

    private static IntPredicate test(int kind, int v, List<Matcher> parts) {
        return switch (kind) {
            case 1 -> x -> x == v;
            case 2 -> x -> x < v;
            case 3 -> x -> x > v;
            case 4 -> parts.get(0).test().and(parts.get(1).test());
            case 5 -> parts.get(0).test().or(parts.get(1).test());
            case 6 -> parts.get(0).test().negate();
            default -> x -> true;
        };
    }

    private Shape shape(int standIn, int m) {
        return shapes[standIns.get(standIn).type()][m];
    }

    private static boolean willDo(Answer answer, Shape shape) {
        boolean echoOfNothing = answer.kind() == 2 && answer.v() >= shape.many();
        boolean givesInVain = answer.kind() != 1 && !shape.gives();
        return !echoOfNothing && !givesInVain;
    }

    long call(int standIn, int m, int a, int b) {
        long error = 1L << 44;
        if (missing(standIn) || m < 0 || m > 3) {
            return error - 1;
        }
        if (state == State.TOLD && standIn == subject && tellings.size() == 16 || !waiting() && calls.size() == 40) {
            return error - 2;
        }
        Shape shape = shape(standIn, m);
        boolean wrong = !stack.isEmpty() && stack.size() != shape.many()
                || state == State.TOLD && !prepared.stream().allMatch(answer -> willDo(answer, shape));
        long before = misuses;
        long answer = step(waiting() && standIn != subject || openTelling(), false, wrong,
                () -> doCall(standIn, m, a, b, shape));
        return misuses > before ? error + answer : answer;
    }

    private long doCall(int standIn, int m, int a, int b, Shape shape) {
        Call call = new Call();
        call.standIn = standIn;
        call.method = m;
        call.values = new int[] {shape.many() > 0 ? a : 0, shape.many() > 1 ? b : 0};
        call.matchers = new ArrayList<>(stack);
        for (int i = stack.size(); i < shape.many(); i++) {
            int value = call.values[i];
            call.matchers.add(new Matcher(x -> x == value, 1, false));
        }
        stack.clear();
        State was = state;
        state = was == State.TOLD || was == State.CHECKING ? State.IDLE : State.CALLED;
        if (was == State.TOLD) {
            Telling telling = new Telling();
            telling.pattern = call;
            telling.answers.addAll(prepared);
            prepared.clear();
            tellings.add(telling);
            return 0;
        }
        return was == State.CHECKING ? doCheck(call) : note(call, shape);
    }

    private static boolean matches(Call pattern, Call other) {
        boolean all = pattern.standIn == other.standIn && pattern.method == other.method;
        for (int i = 0; i < pattern.matchers.size(); i++) {
            all = all && pattern.matchers.get(i).test().test(other.values[i]);
        }
        return all;
    }

    private long note(Call call, Shape shape) {
        call.number = numbers++;
        calls.add(call);
        for (int t = 0; t < tellings.size(); t++) {
            if (!tellings.get(t).answers.isEmpty() && matches(tellings.get(t).pattern, call)) {
                call.by = t;
            }
        }
        int real = shape.gives() ? 7 * call.method + 3 * call.values[0] - call.values[1] : 0;
        if (call.by < 0) {
            return new long[] {0, real, 1L << 41}[standIns.get(call.standIn).kind()];
        }
        Telling telling = tellings.get(call.by);
        Answer answer = telling.answers.get(Math.min(telling.answered, telling.answers.size() - 1));
        telling.answered++;
        return switch (answer.kind()) {
            case 0 -> answer.v();
            case 1 -> (1L << 40) + answer.v();
            case 2 -> call.values[answer.v()];
            default -> real;
        };
    }

    private long doCheck(Call pattern) {
        found = new ArrayList<>(calls.stream().filter(call -> matches(pattern, call)).toList());
        if (mode == 4) {
            found.removeIf(call -> call.number <= place);
        }
        long ofStandIn = calls.stream().filter(call -> call.standIn == pattern.standIn).count();
        passed = switch (mode) {
            case 0 -> found.size() == modeNumber;
            case 2 -> found.size() <= modeNumber;
            case 3 -> found.size() == 1 && ofStandIn == 1;
            default -> found.size() >= modeNumber;
        };
        if (!passed) {
            return 1L << 43;
        }
        if (mode == 4) {
            found.subList(modeNumber, found.size()).clear();
            place = found.get(modeNumber - 1).number;
        }
        for (Call call : found) {
            call.seen = true;
            for (int i = 0; i < pattern.matchers.size(); i++) {
                if (pattern.matchers.get(i).catches()) {
                    caught.add(0, call.values[i]);
                }
            }
        }
        return 1L << 42;
    }

    long when() {
        if (tellings.size() == 16) {
            return -2;
        }
        return plain(state != State.CALLED, State.TELLING, () -> {
            Telling telling = new Telling();
            telling.pattern = calls.remove(calls.size() - 1);
            tellings.add(telling);
            return tellings.size() - 1;
        });
    }

    long answer(int kind, int v) {
        if (kind < 0 || kind > 3 || kind == 1 && (v < 0 || v > 999) || kind == 2 && (v < 0 || v > 1)) {
            return -1;
        }
        boolean toTelling = state == State.TELLING;
        List<Answer> list = toTelling ? last().answers : prepared;
        if (list.size() == 4) {
            return -2;
        }
        Answer answer = new Answer(kind, v);
        boolean wrong = toTelling && !willDo(answer, shape(last().pattern.standIn, last().pattern.method));
        return step(waiting(), !stack.isEmpty(), wrong, () -> {
            list.add(answer);
            state = toTelling ? State.TELLING : State.IDLE;
            return list.size();
        });
    }

    long told(int standIn) {
        if (missing(standIn)) {
            return -1;
        }
        return plain(prepared.isEmpty(), State.TOLD, () -> {
            subject = standIn;
            return prepared.size();
        });
    }

    long check(int standIn, int mode, int n) {
        if (missing(standIn) || mode < 0 || mode > 4 || n < 0 || n > 40 || mode == 4 && n == 0) {
            return -1;
        }
        return plain(false, State.CHECKING, () -> {
            subject = standIn;
            this.mode = mode;
            modeNumber = n;
            return 1;
        });
    }

    long noMore(int standIn) {
        if (missing(standIn)) {
            return -1;
        }
        return plain(false, State.IDLE, () -> calls.stream()
                .filter(call -> call.standIn == standIn && !call.seen)
                .mapToLong(call -> call.number).findFirst().orElse(-6));
    }

    long restart() {
        return plain(false, State.IDLE, () -> {
            int was = place;
            place = -1;
            return was;
        });
    }

    private static long pick(int what, long... of) {
        return what < 0 || what >= of.length ? -1 : of[what];
    }

    long noted(int k, int what) {
        if (k < 0 || k >= calls.size()) {
            return -1;
        }
        Call call = calls.get(k);
        return pick(what, call.number, call.standIn, call.method, call.values[0], call.values[1], call.seen ? 1 : 0, call.by);
    }

    long telling(int t, int what) {
        if (t < 0 || t >= tellings.size()) {
            return -1;
        }
        Telling telling = tellings.get(t);
        return pick(what, telling.pattern.standIn, telling.pattern.method, telling.answers.size(), telling.answered,
                telling.gone ? 0 : 1);
    }

    long found(int what) {
        if (found == null || what < 0 || what > found.size() + 1) {
            return -1;
        }
        return what == 0 ? (passed ? 1 : 0) : what == 1 ? found.size() : found.get(what - 2).number;
    }

    long caught(int k) {
        return k < 0 || k > 11 || k >= caught.size() ? -1 : caught.get(k);
    }

    long count(int what) {
        long unused = tellings.stream().filter(one -> !one.answers.isEmpty() && one.answered == 0).count();
        return pick(what, standIns.size(), calls.size(), tellings.size(), unused, stack.size(), state.ordinal(),
                prepared.size(), caught.size(), place, misuses);
    }
}
