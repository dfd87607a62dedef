import java.io.IOException;
import java.lang.reflect.InvocationTargetException;
import java.lang.reflect.Method;
import java.nio.file.Files;
import java.nio.file.Path;
import java.util.ArrayList;
import java.util.List;

/**
 * Sentences of ../shared/DOC.md, each with written calls on a new object that would answer otherwise
 * if the sentence were broken.
 *
 * <p>Calls are written one behind the other, with a semicolon or a new line between them:
 * "strike 0 = 3" is due to answer 3, "puppet 7 !A" to throw IllegalArgumentException (!I is
 * IndexOutOfBoundsException, !S IllegalStateException), "strike 0" only not to throw; "strike 0 x48" is
 * called 48 times, and the last answer looked at; "puppet {0 7} !A" is two calls, one for each number.
 *
 * <p>Each call that is due to throw is looked at for what it leaves as it was: two objects that were
 * made by the same calls, one of them with the refused call behind, answer everything alike.
 */
final class Sentences {
    private static final int MOST_CALLS = 512;
    private static final int TERMS = 0;
    private static final int LONGEST_TITLE = 20;

    private final List<String> document;
    private final List<List<String>> told = new ArrayList<>();
    private int calls = 0;
    private int refusals = 0;
    private int wrong = 0;

    Sentences() throws IOException {
        document = Files.readAllLines(Path.of("../shared/DOC.md"));
        for (int promise = 0; promise <= 34; promise++) {
            told.add(new ArrayList<>());
        }
    }

    /** A sentence of Terms, or of what stands ahead of it. */
    void term(String sentence, String... scripts) {
        holds(TERMS, sentence, scripts);
    }

    /** A sentence of a promise, and calls for it; each script begins with a new object. */
    void holds(int promise, String sentence, String... scripts) {
        told.get(promise).add(sentence);
        if (pieces(promise).stream().noneMatch(piece -> piece.contains(sentence) || sentence.contains(piece))) {
            fail(promise, sentence, "the document does not say that");
        }
        for (String script : scripts) {
            run(promise, sentence, Call.read(script));
        }
    }

    /** A sentence of Terms that is looked at otherwise than by the answers of calls. */
    void need(String sentence, boolean holds) {
        term(sentence);
        calls++;
        if (!holds) {
            fail(TERMS, sentence, "does not hold");
        }
    }

    /** For a sentence that the calls of one object, at most 512, cannot reach. */
    void holdsBeyond(String sentence, String script) {
        told.get(TERMS).add(sentence);
        FrameClay x = new FrameClay();
        for (Call call : Call.read(script)) {
            answerIsDue(TERMS, sentence, call, call.on(x));
        }
    }

    /** Every line of promises 1 to 34 has calls of its own. */
    void needEachPromise() {
        for (int promise = 1; promise <= 34; promise++) {
            needEach(promise);
        }
    }

    /** Every sentence of Terms has calls of its own. */
    void needEachTerm() {
        needEach(TERMS);
    }

    void end() {
        System.out.println(wrong + " of " + calls + " answers are not as due; " + refusals + " refused calls");
        if (wrong != 0) {
            System.exit(1);
        }
    }

    private void needEach(int promise) {
        for (String piece : pieces(promise)) {
            if (told.get(promise).stream().noneMatch(one -> piece.contains(one) || one.contains(piece))) {
                fail(promise, piece, "has no calls of its own");
            }
        }
    }

    private void fail(int promise, String sentence, String what) {
        wrong++;
        System.out.println((promise == TERMS ? "terms" : "promise " + promise) + ", \"" + sentence + "\": " + what);
    }

    // ---- what the document says

    private List<String> pieces(int promise) {
        List<String> pieces = new ArrayList<>();
        for (String line : section(promise)) {
            if (promise != TERMS) {
                pieces.add(line);
                continue;
            }
            for (String piece : line.split("(?<=[^.])[.;]( |$)")) {
                pieces.add(piece);
            }
        }
        return pieces;
    }

    private List<String> section(int promise) {
        String head = promise == TERMS ? "## Terms" : "## Promise " + promise + ":";
        List<String> lines = new ArrayList<>();
        boolean inside = false;
        for (String line : document) {
            if (line.startsWith("## ") || line.startsWith("The constants:")) {
                inside = line.startsWith(head);
            } else if (inside && line.length() > (promise == TERMS ? LONGEST_TITLE : 0)) {
                lines.add(line);
            } else if (promise == TERMS && line.startsWith("An object is used for")) {
                lines.add(line);
            }
        }
        return lines;
    }

    // ---- running

    private void run(int promise, String sentence, List<Call> script) {
        FrameClay x = new FrameClay();
        if (script.size() > MOST_CALLS) {
            fail(promise, sentence, "more calls than 512");
            return;
        }
        for (int i = 0; i < script.size(); i++) {
            Call call = script.get(i);
            if (!answerIsDue(promise, sentence, call, call.on(x))) {
                return;
            }
            if (call.isRefused()) {
                refusals++;
                String change = new Unchanged(script.subList(0, i), call).change();
                if (change != null) {
                    fail(promise, sentence, call + " is refused, but changes " + change);
                    return;
                }
            }
        }
    }

    private boolean answerIsDue(int promise, String sentence, Call call, String got) {
        calls++;
        if (call.isDue(got)) {
            return true;
        }
        fail(promise, sentence, call + " answered " + got);
        return false;
    }

    /** One written call, and what is due. */
    static final class Call {
        final String name;
        final int[] numbers;
        private final String due;

        private Call(String name, int[] numbers, String due) {
            this.name = name;
            this.numbers = numbers;
            this.due = due;
        }

        static List<Call> read(String script) {
            List<Call> calls = new ArrayList<>();
            for (String line : script.split("[;\n]")) {
                if (!line.isBlank()) {
                    readLine(line.trim(), calls);
                }
            }
            return calls;
        }

        private static void readLine(String line, List<Call> calls) {
            int open = line.indexOf('{');
            if (open >= 0) {
                int shut = line.indexOf('}');
                for (String one : line.substring(open + 1, shut).split(" ")) {
                    readLine(line.substring(0, open) + one + line.substring(shut + 1), calls);
                }
                return;
            }
            String due = line.contains("!") ? thrown(line) : line.contains("=") ? answer(line) : "";
            String[] words = line.split("[=!]")[0].trim().split(" +");
            int times = 1;
            List<Integer> numbers = new ArrayList<>();
            for (int i = 1; i < words.length; i++) {
                if (words[i].startsWith("x")) {
                    times = Integer.parseInt(words[i].substring(1));
                } else {
                    numbers.add(number(words[i]));
                }
            }
            int[] row = numbers.stream().mapToInt(Integer::intValue).toArray();
            for (int i = 1; i < times; i++) {
                calls.add(new Call(words[0], row, ""));
            }
            calls.add(new Call(words[0], row, due));
        }

        private static String thrown(String line) {
            switch (line.substring(line.indexOf('!') + 1).trim()) {
                case "I": return "IndexOutOfBoundsException";
                case "A": return "IllegalArgumentException";
                case "S": return "IllegalStateException";
                default: throw new IllegalArgumentException("unreadable: " + line);
            }
        }

        private static String answer(String line) {
            return "" + number(line.substring(line.indexOf('=') + 1).trim());
        }

        private static int number(String word) {
            switch (word) {
                case "MIN": return Integer.MIN_VALUE;
                case "MAX": return Integer.MAX_VALUE;
                case "NONE": return FrameClay.NONE;
                case "true": return 1;
                case "false": return 0;
                default: return Integer.parseInt(word);
            }
        }

        boolean isRefused() {
            return due.endsWith("Exception");
        }

        boolean isDue(String got) {
            return due.isEmpty() ? !got.endsWith("Exception") && !got.endsWith("Error") : due.equals(got);
        }

        /** The number that it answers (a boolean counts 1 or 0), or the name of what it throws. */
        String on(FrameClay x) {
            try {
                Method method = method();
                Object[] given = new Object[numbers.length];
                for (int i = 0; i < numbers.length; i++) {
                    given[i] = method.getParameterTypes()[i] == boolean.class ? (Object) (numbers[i] == 1) : numbers[i];
                }
                Object answer = method.invoke(x, given);
                return answer instanceof Boolean ? (Boolean) answer ? "1" : "0" : "" + answer;
            } catch (InvocationTargetException e) {
                return e.getCause().getClass().getSimpleName();
            } catch (IllegalAccessException e) {
                throw new IllegalStateException(e);
            }
        }

        private Method method() {
            for (Method method : FrameClay.class.getMethods()) {
                if (method.getName().equals(name) && method.getParameterCount() == numbers.length
                        && method.getDeclaringClass() == FrameClay.class) {
                    return method;
                }
            }
            throw new IllegalArgumentException("no such call: " + this);
        }

        @Override
        public String toString() {
            StringBuilder text = new StringBuilder(name);
            for (int number : numbers) {
                text.append(' ').append(number);
            }
            return text + (due.isEmpty() ? "" : " (due " + due + ")");
        }
    }

    /** Looks whether a refused call changes what other calls answer behind it. */
    private static final class Unchanged {
        private static final int LONGEST_LOOK = 12;

        private final List<Call> ahead;
        private final Call refused;
        private final List<Integer> joints = new ArrayList<>();
        private final List<Integer> jointsOfShot = new ArrayList<>();
        private final List<Integer> frames = new ArrayList<>();
        private int voices = 0;
        private final StringBuilder look = new StringBuilder();
        private String change = null;

        Unchanged(List<Call> ahead, Call refused) {
            this.ahead = ahead;
            this.refused = refused;
            for (Call call : ahead) {
                if (!call.isRefused()) {
                    count(call);
                }
            }
        }

        private void count(Call call) {
            if (call.name.equals("puppet")) {
                joints.add(call.numbers[0]);
            } else if (call.name.equals("shot")) {
                jointsOfShot.add(joints.get(call.numbers[0]));
                frames.add(call.numbers[1]);
            } else if (call.name.equals("voice")) {
                voices++;
            }
        }

        /** The first call that answers otherwise behind the refused one; null if none does. */
        String change() {
            askPuppets();
            askShots();
            askFrames();
            compare();
            tellAll();
            compare();
            goOn();
            compare();
            beginAnew();
            compare();
            addMore();
            compare();
            return change;
        }

        private void ask(Object... words) {
            for (Object word : words) {
                look.append(word).append(' ');
            }
            look.append('\n');
        }

        private void askPuppets() {
            ask("light");
            for (int p = 0; p <= joints.size(); p++) {
                for (int j = 0; j < (p < joints.size() ? joints.get(p) : 1); j++) {
                    ask("ofJoint", p, j, 0);
                    ask("ofJoint", p, j, 1);
                }
                for (int sound = 0; sound < 10; sound++) {
                    ask("left", p, sound);
                }
            }
            for (int at = 0; at < LONGEST_LOOK * 2; at++) {
                ask("film", at);
            }
        }

        private void askShots() {
            ask("struck", frames.size());
            for (int s = 0; s < frames.size(); s++) {
                ask("struck", s);
                ask("bars", s);
                for (int j = 0; j < jointsOfShot.get(s); j++) {
                    ask("wears", s, j);
                }
                for (int sound = 0; sound < 10; sound++) {
                    ask("wants", s, sound);
                }
            }
        }

        private void askFrames() {
            for (int s = 0; s < frames.size(); s++) {
                for (int f = 0; f < Math.min(frames.get(s), LONGEST_LOOK); f++) {
                    ask("mouth", s, f);
                    ask("place", s, f);
                    ask("faults", s, f);
                    for (int j = 0; j < jointsOfShot.get(s); j++) {
                        ask("degree", s, j, f);
                        ask("pose", s, j, f);
                    }
                    for (int what = 0; what < 4; what++) {
                        ask("ofFrame", s, f, what);
                    }
                }
            }
        }

        /** What only a call tells that changes it. */
        private void tellAll() {
            for (int s = 0; s < frames.size(); s++) {
                ask("level", s);
                ask("dub", s, FrameClay.NONE);
            }
            for (int animator = 0; animator < 5; animator++) {
                ask("ill", animator, 0);
            }
            ask("play", 20);
            for (int s = 0; s < frames.size(); s++) {
                ask("assign", s, 0);
                ask("bump", s, 1);
            }
            ask("lamp");
            ask("light");
        }

        private void goOn() {
            for (int animator = 0; animator < 5; animator++) {
                ask("ill", animator, 0);
            }
            for (int s = 0; s < frames.size(); s++) {
                for (int i = 0; i < 3; i++) {
                    ask("strike", s);
                    ask("light");
                }
                for (int f = 0; f < Math.min(frames.get(s), LONGEST_LOOK); f++) {
                    ask("ofFrame", s, f, 1);
                    ask("ofFrame", s, f, 2);
                    ask("ofFrame", s, f, 3);
                }
            }
        }

        private void beginAnew() {
            for (int s = 0; s < frames.size(); s++) {
                ask("cutOut", s);
                ask("anew", s, 0);
                ask("dub", s, FrameClay.NONE);
                ask("assign", s, 0);
            }
            for (int p = 0; p < joints.size(); p++) {
                for (int j = 0; j < joints.get(p); j++) {
                    ask("mend", p, j);
                }
            }
            for (int s = 0; s < frames.size(); s++) {
                for (int i = 0; i < Math.min(frames.get(s), 4); i++) {
                    ask("strike", s);
                    ask("light");
                    ask("ofFrame", s, i, 1);
                    ask("ofFrame", s, i, 3);
                }
            }
        }

        private void addMore() {
            ask("sound", 8, 1);
            ask("sound", 7, 1);
            ask("voice");
            ask("puppet", 1);
            for (int voice = 0; voice <= voices; voice++) {
                ask("shot", 0, 48, 1, voice);
                ask("dub", 0, voice);
                for (int f = 0; f < LONGEST_LOOK; f++) {
                    ask("mouth", 0, f);
                    ask("mouth", frames.size(), f);
                }
            }
        }

        private void compare() {
            List<Call> calls = Call.read(look.toString());
            look.setLength(0);
            int room = MOST_CALLS - ahead.size() - 1;
            for (int from = 0; from < calls.size() && change == null && room > 0; from += room) {
                compare(calls.subList(from, Math.min(calls.size(), from + room)));
            }
        }

        private void compare(List<Call> calls) {
            FrameClay one = made();
            FrameClay other = made();
            refused.on(other);
            for (Call call : calls) {
                String want = call.on(one);
                String got = call.on(other);
                if (!want.equals(got)) {
                    change = call + " from " + want + " to " + got;
                    return;
                }
            }
        }

        private FrameClay made() {
            FrameClay x = new FrameClay();
            for (Call call : ahead) {
                call.on(x);
            }
            return x;
        }
    }
}
