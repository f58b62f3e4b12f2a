import java.util.ArrayList;
import java.util.HashMap;
import java.util.List;
import java.util.Map;

/**
 * A run of calls on one new object, written as text: "define 0 1 2 true = 1; 6 * make 0 0; when = WRONG".
 * A number and * say how often; behind = stands the answer that is due, if it is to be looked at.
 * MIN and MAX are the least and the greatest int; behind a call, REFUSED and its like are ERROR + that.
 */
final class Run {
    /** What later calls answer is free, so no test may lean on it. */
    private static final int CALLS = 512;

    private static final List<String> QUESTIONS = questions();

    /** One call of a text, taken apart; tables are played so often that this is worth keeping. */
    private record Part(int times, String call, String form, int[] n, boolean hasDue, long due) { }

    private static final Map<String, List<Part>> PARTS = new HashMap<>();

    private final StandIns x = new StandIns();
    private final List<Part> played = new ArrayList<>();
    private long last = 0;

    Run(String... texts) {
        for (String text : texts) {
            go(text);
        }
    }

    Run go(String text) {
        for (Part part : PARTS.computeIfAbsent(text, Run::parts)) {
            for (int i = 0; i < part.times(); i++) {
                goOn(part);
            }
        }
        return this;
    }

    private void goOn(Part part) {
        played.add(part);
        last = play(part.form(), part.n());
        if (part.hasDue()) {
            Due.due(part.due(), last, this);
        }
        if (played.size() > CALLS) {
            Due.due(CALLS, played.size(), "a test with too many calls");
        }
    }

    long last() {
        return last;
    }

    int size() {
        return played.size();
    }

    @Override
    public String toString() {
        StringBuilder text = new StringBuilder();
        int same = 1;
        for (int i = 0; i < played.size(); i++) {
            String call = played.get(i).call();
            if (i + 1 < played.size() && played.get(i + 1).call().equals(call)) {
                same++;
            } else {
                text.append(same > 1 ? same + " * " : "").append(call).append("; ");
                same = 1;
            }
        }
        return text.toString();
    }

    private static List<Part> parts(String text) {
        List<Part> parts = new ArrayList<>();
        for (String part : text.split(";")) {
            if (!part.isBlank()) {
                parts.add(part(part));
            }
        }
        return parts;
    }

    private static Part part(String text) {
        int star = text.indexOf('*');
        int times = star < 0 ? 1 : Integer.parseInt(text.substring(0, star).strip());
        String[] sides = text.substring(star + 1).split("=");
        String call = sides[0].strip();
        String[] words = call.split(" +");
        int[] n = new int[5];
        for (int i = 1; i < words.length; i++) {
            n[i] = Math.toIntExact(value(words[i], false));
        }
        boolean hasDue = sides.length > 1;
        long due = hasDue ? value(sides[1].strip(), words[0].equals("call")) : 0;
        return new Part(times, call, words[0] + " " + (words.length - 1), n, hasDue, due);
    }

    private static long value(String text, boolean ofCall) {
        int plus = text.indexOf('+');
        if (plus > 0) {
            return value(text.substring(0, plus).strip(), ofCall) + value(text.substring(plus + 1).strip(), ofCall);
        }
        long error = ofCall ? StandIns.ERROR : 0;
        return switch (text) {
            case "true" -> 1;
            case "false" -> 0;
            case "MIN" -> Integer.MIN_VALUE;
            case "MAX" -> Integer.MAX_VALUE;
            case "REFUSED" -> error + StandIns.REFUSED;
            case "FULL" -> error + StandIns.FULL;
            case "UNFINISHED" -> error + StandIns.UNFINISHED;
            case "MISPLACED" -> error + StandIns.MISPLACED;
            case "WRONG" -> error + StandIns.WRONG;
            case "THROWN" -> StandIns.THROWN;
            case "UNTOLD" -> StandIns.UNTOLD;
            case "PASSED" -> StandIns.PASSED;
            case "BROKEN" -> StandIns.BROKEN;
            default -> Long.parseLong(text);
        };
    }

    private long play(String form, int[] n) {
        return switch (form) {
            case "define 4" -> x.define(n[1], n[2], n[3], n[4] == 1);
            case "make 2" -> x.make(n[1], n[2]);
            case "matcher 2" -> x.matcher(n[1], n[2]);
            case "call 4" -> x.call(n[1], n[2], n[3], n[4]);
            case "when 0" -> x.when();
            case "answer 2" -> x.answer(n[1], n[2]);
            case "told 1" -> x.told(n[1]);
            case "check 3" -> x.check(n[1], n[2], n[3]);
            case "noMore 1" -> x.noMore(n[1]);
            case "restart 0" -> x.restart();
            case "noted 2" -> x.noted(n[1], n[2]);
            case "telling 2" -> x.telling(n[1], n[2]);
            case "found 1" -> x.found(n[1]);
            case "caught 1" -> x.caught(n[1]);
            case "count 1" -> x.count(n[1]);
            default -> throw new IllegalArgumentException(form);
        };
    }

    /** Every question that may tell something. */
    private static List<String> questions() {
        List<String> all = new ArrayList<>();
        for (int what = 0; what <= 9; what++) {
            all.add("count " + what);
        }
        for (int k = 0; k < 40; k++) {
            for (int what = 0; what <= 6; what++) {
                all.add("noted " + k + " " + what);
            }
        }
        for (int t = 0; t < 16; t++) {
            for (int what = 0; what <= 4; what++) {
                all.add("telling " + t + " " + what);
            }
        }
        for (int what = 0; what <= 41; what++) {
            all.add("found " + what);
        }
        for (int k = 0; k < 12; k++) {
            all.add("caught " + k);
        }
        return all;
    }

    /** The answers to every question behind a run; it is run anew for each part, to keep to 512 calls. */
    static long[] look(String... texts) {
        long[] seen = new long[QUESTIONS.size()];
        Run run = new Run(texts);
        for (int i = 0; i < seen.length; i++) {
            if (run.size() >= CALLS) {
                run = new Run(texts);
            }
            seen[i] = run.go(QUESTIONS.get(i)).last();
        }
        return seen;
    }

    /** Holds the answers to every question behind two runs against each other. */
    static void sameLook(long[] due, long[] seen, String run) {
        for (int i = 0; i < due.length; i++) {
            Due.due(due[i], seen[i], run, QUESTIONS.get(i));
        }
    }

    static int questionsAsked() {
        return QUESTIONS.size();
    }

    static String question(int i) {
        return QUESTIONS.get(i);
    }
}
