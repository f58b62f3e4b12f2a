import java.util.ArrayList;
import java.util.LinkedHashMap;
import java.util.List;
import java.util.Map;

/**
 * The edges in "Terms" on STEPS and questions: "A STEP whose numbers are out of range, or that names what is
 * not there, is REFUSED; one for which there is no room is FULL; nothing changes then." Each such STEP is
 * played in many situations; behind it, whatever comes next goes as if the STEP had not been there.
 */
public final class EdgesOfStepsTest {
    /** METHODS 0 to 3 have 0, 1, 2 and 2 PARAMETERS; the last does not GIVE. */
    private static final String THREE = "define 0 1 1 true; define 0 2 2 true; define 0 3 2 false; make 0 0; make 0 1; make 0 2; ";
    private static final String NOTES = THREE + "40 * call 0 1 5 0; ";
    private static final String TELLINGS = THREE + tellings(16);

    private static final Map<String, String> SITUATIONS = situations();

    /** REFUSED in every situation: REFUSED goes before FULL, and both before MISUSE. */
    private static final String[] OUT_OF_RANGE = {
        "define -1 0 0 true", "define 3 0 0 true", "define MIN 0 0 true", "define MAX 0 0 true", "define 0 -1 0 true",
        "define 0 4 0 true", "define 0 0 -1 true", "define 0 0 3 true", "make -1 0", "make 3 0", "make 0 -1", "make 0 3",
        "make MIN MAX", "matcher -1 0", "matcher 8 0", "matcher MIN 0", "matcher MAX 0", "call -1 0 0 0", "call 6 0 0 0",
        "call MIN 1 5 0", "call MAX 1 5 0", "call 0 -1 0 0", "call 0 4 0 0", "call 0 MIN 0 0", "call 0 MAX 0 0",
        "answer -1 0", "answer 4 0", "answer MIN 0", "answer MAX 0", "answer 1 -1", "answer 1 1000", "answer 1 MIN",
        "answer 1 MAX", "answer 2 -1", "answer 2 2", "answer 2 MIN", "answer 2 MAX", "told -1", "told 6", "told MIN",
        "told MAX", "check -1 0 0", "check 6 0 0", "check 0 -1 1", "check 0 5 1", "check 0 0 -1", "check 0 0 41",
        "check 0 1 -1", "check 0 1 41", "check 0 2 -1", "check 0 2 41", "check 0 3 -1", "check 0 3 41", "check 0 4 -1",
        "check 0 4 0", "check 0 4 41", "check 0 MIN 1", "check 0 MAX 1", "check 0 4 MIN", "check 0 4 MAX", "noMore -1",
        "noMore 6", "noMore MIN", "noMore MAX"};

    /** What may come next: each shows something that no question tells, such as what lies on the STACK. */
    private static final String[] NEXT = {
        "restart", "when", "when; answer 0 9; call 0 1 5 0; call 0 1 6 0", "told 0", "told 1; call 1 2 1 2; call 1 2 1 2",
        "answer 0 1", "answer 2 1", "answer 1 7; call 0 1 5 0; call 0 1 5 0", "check 0 1 0; matcher 7 0; call 0 1 0 0",
        "noMore 0", "noMore 1", "make 0 1", "define 0 1 2 false; make 0 1; call 0 1 3 4", "matcher 0 0; call 0 1 5 0; when",
        "matcher 4 0; call 0 1 0 0", "matcher 5 0; call 0 1 0 0; when; answer 0 3; call 0 1 5 0", "matcher 6 0",
        "call 0 1 5 0; call 0 1 5 0; call 0 1 5 0", "call 1 1 5 0; call 1 1 5 0", "call 1 2 5 6; call 1 2 5 6",
        "call 2 0 0 0", "call 0 2 5 6; when; answer 2 1; call 0 2 5 6", "call 0 3 5 6; when; answer 1 6; call 0 3 5 6",
        "call 0 0 0 0; when; answer 3 0; call 0 0 0 0", "check 0 4 1; call 0 1 5 0; check 0 4 1; call 0 1 5 0"};

    public static void main(String[] args) {
        whatIsOutOfRangeIsRefusedAlways();
        whatIsNotThereIsRefused();
        whatHasNoRoomIsFull();
        whatHasRoomIsNotFull();
        questionsChangeNothing();
        wildQuestionsChangeNothing();
        Due.end();
    }

    private static String tellings(int many) {
        StringBuilder text = new StringBuilder();
        for (int i = 0; i < many; i++) {
            text.append("answer 0 ").append(i).append("; told 0; call 0 1 ").append(i).append(" 0; ");
        }
        return text.toString();
    }

    private static Map<String, String> situations() {
        Map<String, String> all = new LinkedHashMap<>();
        all.put("new", "restart; ");
        all.put("new, prepared", "answer 0 7; ");
        all.put("new, stack of 2", "matcher 1 5; matcher 7 0; ");
        all.put("idle", THREE);
        all.put("idle, noted", THREE + "call 0 1 5 0; call 1 2 5 6; restart; ");
        all.put("six stand-ins", THREE + "3 * make 0 0; ");
        all.put("called", THREE + "call 0 1 5 0; ");
        all.put("called with matchers", THREE + "matcher 3 2; call 0 1 5 0; ");
        all.put("called and answered", THREE + "answer 0 1; answer 0 2; told 0; call 0 1 5 0; call 0 1 5 0; ");
        all.put("stack of 1", THREE + "matcher 1 5; ");
        all.put("stack of 2", THREE + "matcher 1 5; matcher 7 0; ");
        all.put("stack of 6", THREE + "6 * matcher 1 5; ");
        all.put("stack with size 8", THREE + "matcher 1 5; 7 * matcher 6 0; ");
        all.put("stack with sizes 4 and 4", THREE + "matcher 1 5; 3 * matcher 6 0; matcher 1 5; 3 * matcher 6 0; ");
        all.put("prepared 1", THREE + "answer 0 7; ");
        all.put("prepared 4", THREE + "4 * answer 0 7; ");
        all.put("told", THREE + "answer 0 7; answer 1 3; told 1; ");
        all.put("told with 4", THREE + "answer 0 7; answer 1 3; answer 3 0; answer 0 8; told 1; ");
        all.put("told, stack", THREE + "answer 0 7; told 0; matcher 3 2; ");
        all.put("told, stack of 6", THREE + "answer 0 7; told 0; 6 * matcher 3 2; ");
        all.put("checking", THREE + "2 * call 0 1 5 0; check 0 0 2; ");
        all.put("checking, stack", THREE + "2 * call 0 1 5 0; check 0 1 1; matcher 7 0; ");
        all.put("checking, prepared 4", THREE + "call 1 1 5 0; 4 * answer 0 7; check 1 3 0; ");
        all.put("checking in order", THREE + "call 0 1 5 0; call 0 1 6 0; check 0 4 1; call 0 1 5 0; check 0 4 1; ");
        all.put("telling", THREE + "call 0 1 5 0; when; ");
        all.put("telling, prepared", THREE + "answer 0 8; call 0 1 5 0; when; ");
        all.put("telling with 1", THREE + "call 0 1 5 0; when; answer 0 7; ");
        all.put("telling with 4", THREE + "call 0 1 5 0; when; 4 * answer 0 7; ");
        all.put("checked", THREE + "call 0 2 5 6; call 0 2 7 8; check 0 4 1; 2 * matcher 7 0; call 0 2 0 0; ");
        all.put("behind a misuse", THREE + "call 0 1 5 0; when; restart; ");
        all.put("40 noted, called", NOTES);
        all.put("40 noted, idle", NOTES + "restart; ");
        all.put("40 noted, stack of 1", NOTES + "matcher 1 5; ");
        all.put("40 noted, told", NOTES + "answer 0 7; told 0; ");
        all.put("40 noted, checking", NOTES + "check 0 0 40; ");
        all.put("16 tellings, idle", TELLINGS);
        all.put("16 tellings, called", TELLINGS + "call 0 1 5 0; ");
        all.put("16 tellings, stack", TELLINGS + "call 0 1 5 0; matcher 1 5; ");
        all.put("16 tellings, told", TELLINGS + "answer 0 7; told 0; ");
        all.put("16 tellings, told with 4, stack", TELLINGS + "4 * answer 0 7; told 0; matcher 3 2; ");
        all.put("16 tellings, the last open", THREE + tellings(15) + "call 0 1 5 0; when; ");
        all.put("16 tellings, the last with 4", THREE + tellings(15) + "call 0 1 5 0; when; 4 * answer 0 3; ");
        return all;
    }

    /** Behind the STEP all goes as if it had not been. */
    private static void changesNothing(String situation, String step) {
        String before = SITUATIONS.get(situation);
        for (String next : NEXT) {
            Due.due(new Run(before, next).last(), new Run(before, step, next).last(), situation, ":", step, "and", next);
        }
    }

    private static void looksTheSame(String situation, String step) {
        String before = SITUATIONS.get(situation);
        Run.sameLook(Run.look(before), Run.look(before, step), situation + ": " + step + ": ");
        for (String next : NEXT) {
            Run.sameLook(Run.look(before, next), Run.look(before, step, next), situation + ": " + step + "; " + next + ": ");
        }
    }

    private static void whatIsOutOfRangeIsRefusedAlways() {
        for (String situation : SITUATIONS.keySet()) {
            StringBuilder all = new StringBuilder();
            for (String step : OUT_OF_RANGE) {
                new Run(SITUATIONS.get(situation), step + " = REFUSED");
                changesNothing(situation, step);
                all.append(step).append(" = REFUSED; ");
            }
            looksTheSame(situation, all.toString());
        }
    }

    /** "or that names what is not there": with three STAND-INS, the fourth; with none, the first. */
    private static void whatIsNotThereIsRefused() {
        for (String situation : SITUATIONS.keySet()) {
            int there = situation.startsWith("new") ? 0 : situation.startsWith("six") ? 6 : 3;
            for (String step : new String[] {"call N 0 0 0", "call N 1 5 0", "told N", "check N 0 0", "check N 4 1", "noMore N"}) {
                String named = step.replace("N", "" + there);
                new Run(SITUATIONS.get(situation), named + " = REFUSED");
                changesNothing(situation, named);
                looksTheSame(situation, named);
            }
        }
    }

    /** Which STEPS have no room, by situation; FULL goes before any MISUSE. */
    private static Map<String, String> fullSteps() {
        Map<String, String> full = new LinkedHashMap<>();
        for (String situation : SITUATIONS.keySet()) {
            full.put(situation, situation.startsWith("new") ? "" : "define 0 0 0 true; define 2 3 2 false; ");
        }
        String simple = "matcher 0 0; matcher 1 0; matcher 2 0; matcher 3 0; matcher 7 0; ";
        String answers = "answer 0 1; answer 1 0; answer 2 0; answer 2 1; answer 3 0; ";
        String calls = "call 0 0 0 0; call 0 1 5 0; call 1 2 5 6; call 2 3 5 6; ";
        String callsOfTold = "call 0 0 0 0; call 0 1 5 0; call 0 2 5 6; call 0 3 5 6; ";
        full.merge("six stand-ins", "make 0 0; make 2 2; ", String::concat);
        full.merge("stack of 6", simple, String::concat);
        full.merge("told, stack of 6", simple, String::concat);
        full.merge("stack with size 8", "matcher 6 0; ", String::concat);
        full.merge("stack with sizes 4 and 4", "matcher 4 0; matcher 5 0; ", String::concat);
        full.merge("prepared 4", answers, String::concat);
        full.merge("told with 4", answers, String::concat);
        full.merge("checking, prepared 4", answers, String::concat);
        full.merge("telling with 4", answers, String::concat);
        full.merge("40 noted, called", calls, String::concat);
        full.merge("40 noted, idle", calls, String::concat);
        full.merge("40 noted, stack of 1", calls, String::concat);
        for (String situation : SITUATIONS.keySet()) {
            if (situation.startsWith("16")) {
                full.merge(situation, "when; ", String::concat);
            }
        }
        full.merge("16 tellings, told", callsOfTold, String::concat);
        full.merge("16 tellings, told with 4, stack", callsOfTold + answers, String::concat);
        full.merge("16 tellings, the last with 4", answers, String::concat);
        return full;
    }

    private static void whatHasNoRoomIsFull() {
        Map<String, String> full = fullSteps();
        for (String situation : SITUATIONS.keySet()) {
            for (String step : full.get(situation).split("; ")) {
                if (!step.isBlank()) {
                    new Run(SITUATIONS.get(situation), step + " = FULL");
                    changesNothing(situation, step);
                    looksTheSame(situation, step);
                }
            }
        }
    }

    /** What is not among those is not FULL, nor REFUSED, in any situation. */
    private static void whatHasRoomIsNotFull() {
        String[] steps = {"define 0 0 0 true", "make 0 0", "matcher 0 0", "matcher 4 0", "matcher 5 0", "matcher 6 0",
            "matcher 7 0", "call 0 0 0 0", "call 0 1 5 0", "call 1 2 5 6", "call 2 3 5 6", "when", "answer 0 1", "answer 1 0",
            "answer 2 1", "answer 3 0", "told 0", "check 0 0 40", "check 0 4 1", "check 2 4 40", "noMore 0"};
        Map<String, String> full = fullSteps();
        List<String> needStandIns = List.of("call", "told", "check", "noMore");
        for (String situation : SITUATIONS.keySet()) {
            for (String step : steps) {
                boolean listed = (full.get(situation) + "; ").contains(step + "; ");
                boolean nobody = situation.startsWith("new") && needStandIns.contains(step.split(" ")[0]);
                long error = step.startsWith("call") ? StandIns.ERROR : 0;
                long got = new Run(SITUATIONS.get(situation), step).last() - error;
                if (!listed && !nobody) {
                    Due.due(0, got == StandIns.FULL || got == StandIns.REFUSED ? 1 : 0, situation, ":", step);
                }
            }
        }
    }

    /** "the others are questions, and change nothing". */
    private static void questionsChangeNothing() {
        for (String situation : SITUATIONS.keySet()) {
            for (int from = 0; from < Run.questionsAsked(); from += 200) {
                List<String> some = new ArrayList<>();
                for (int i = from; i < Math.min(from + 200, Run.questionsAsked()); i++) {
                    some.add(Run.question(i));
                }
                looksTheSame(situation, String.join("; ", some));
            }
        }
    }

    private static void wildQuestionsChangeNothing() {
        String wild = "noted -1 0 = REFUSED; noted 40 0 = REFUSED; noted 0 -1 = REFUSED; noted 0 7 = REFUSED; noted MIN MAX = REFUSED; "
                + "telling -1 0 = REFUSED; telling 16 0 = REFUSED; telling 0 -1 = REFUSED; telling 0 5 = REFUSED; "
                + "found -1 = REFUSED; found 42 = REFUSED; found MIN = REFUSED; found MAX = REFUSED; caught -1 = REFUSED; "
                + "caught 12 = REFUSED; caught MIN = REFUSED; caught MAX = REFUSED; count -1 = REFUSED; count 10 = REFUSED; "
                + "count MIN = REFUSED; count MAX = REFUSED; ";
        for (String situation : SITUATIONS.keySet()) {
            looksTheSame(situation, wild);
        }
    }
}
