import java.util.ArrayList;
import java.util.Arrays;
import java.util.List;
import java.util.Map;
import java.util.TreeMap;

/**
 * Long runs of calls, of at most 512 on each object, against a plain model of the document that is
 * written another way (maps and lists, nothing kept that can be told from them). Each run ends in
 * questions about all that there is, so that a call that throws and changes something shows.
 */
public final class ModelTest {
    private static final int RUNS = 4000;
    private static final int CALLS = 512;
    private static final String[] CHANGES = {
        "puppet", "mouths", "mouths", "mouths", "mouths", "sound", "sound", "sound", "voice", "shot", "shot",
        "assign", "assign", "assign", "ill", "ill", "dub", "key", "key", "key", "key", "camera", "camera",
        "play", "strike", "strike", "strike", "strike", "strike", "strike", "strike", "strike", "strike",
        "bump", "level", "anew", "mend", "mend", "mend", "lamp", "cut", "cut", "cutOut"};
    private static final String[] QUESTIONS = {
        "degree", "mouth", "place", "wants", "bars", "bars", "wears", "struck", "pose", "ofFrame", "ofFrame",
        "faults", "faults", "ofJoint", "left", "light", "film"};

    private long seed;

    private ModelTest(long seed) {
        this.seed = seed * 7919 + 17;
    }

    public static void main(String[] args) {
        int wrong = 0;
        for (int run = 0; run < RUNS && wrong < 10; run++) {
            wrong += new ModelTest(run).run(run) ? 0 : 1;
        }
        System.out.println(wrong == 0 ? RUNS + " runs are as the model's" : "some runs are not as the model's");
        if (wrong != 0) {
            System.exit(1);
        }
    }

    private int below(int bound) {
        seed = seed * 6364136223846793005L + 1442695040888963407L;
        return (int) ((seed >>> 33) % bound);
    }

    /** Mostly 0 to bound - 1; now and then just outside, or far outside. */
    private int number(int bound) {
        int kind = below(60);
        if (kind == 0) {
            return -1;
        }
        if (kind == 1) {
            return bound;
        }
        if (kind == 2) {
            int[] far = {Integer.MIN_VALUE, Integer.MAX_VALUE, -2, bound + 1, 1 << 20};
            return far[below(far.length)];
        }
        return below(Math.max(1, bound));
    }

    private boolean run(int run) {
        FrameClay x = new FrameClay();
        Model m = new Model();
        StringBuilder told = new StringBuilder();
        int ending = CALLS - 170;
        for (int call = 0; call < CALLS; call++) {
            boolean ask = call >= ending || below(4) == 0;
            String name = call < 40 ? opening(call) : ask ? QUESTIONS[below(QUESTIONS.length)] : CHANGES[below(CHANGES.length)];
            int[] a = arguments(name, m);
            String want = answerOfModel(m, name, a);
            String got = answerOfClass(x, name, a);
            told.append(name).append(Arrays.toString(a)).append(' ').append(want).append('\n');
            if (!want.equals(got)) {
                System.out.println("run " + run + ", call " + call + ":\n" + told + "answered " + got);
                return false;
            }
        }
        return true;
    }

    /** So that a run soon has something to work on. */
    private String opening(int call) {
        String[] first = {"puppet", "mouths", "sound", "sound", "voice", "shot", "assign", "key", "camera", "mouths"};
        return first[call % first.length];
    }

    private int[] arguments(String name, Model m) {
        int shot = number(m.shots.size());
        Model.Shot s = m.has(m.shots, shot) ? m.shots.get(shot) : null;
        int frames = s == null ? 3 : s.frames;
        int frame = number(below(3) == 0 ? frames : s == null ? 3 : Math.min(frames, s.struck.size() + 2));
        int joint = number(s == null ? 2 : s.puppet.worn.length);
        int puppet = number(m.puppets.size());
        int[] degrees = {0, 179, 180, 181, 359, 90, 170, below(360), below(360), number(360), number(360)};
        int degree = degrees[below(degrees.length)];
        int sound = number(10) % 4 == 3 ? number(10) : number(2);
        switch (name) {
            case "puppet": return new int[] {1 + number(6)};
            case "mouths": return new int[] {puppet, sound, 1 + number(9)};
            case "sound": return new int[] {sound, 1 + number(below(3) == 0 ? 24 : 4)};
            case "voice": case "lamp": case "light": return new int[0];
            case "shot": return new int[] {puppet, 1 + number(below(2) == 0 ? 48 : 8), 1 + number(2), number(m.voices.size() + 1) - 1};
            case "assign": return new int[] {shot, number(5)};
            case "ill": return new int[] {number(5), below(3) == 0 ? 1 : 0};
            case "dub": return new int[] {shot, number(m.voices.size() + 1) - 1};
            case "key": return new int[] {shot, joint, frame, degree};
            case "camera": return new int[] {shot, frame, below(20) == 0 ? -999 + number(1999) : number(30) - 15};
            case "play": return new int[] {number(21)};
            case "bump": return new int[] {shot, number(199) - 99};
            case "anew": return new int[] {shot, below(2) == 0 ? frame : Math.max(0, frame - 1)};
            case "mend": return new int[] {puppet, number(m.has(m.puppets, puppet) ? m.puppets.get(puppet).worn.length : 2)};
            case "degree": case "pose": return new int[] {shot, joint, frame};
            case "mouth": case "place": case "faults": return new int[] {shot, frame};
            case "wants": return new int[] {shot, sound};
            case "wears": return new int[] {shot, joint};
            case "ofFrame": return new int[] {shot, frame, number(4)};
            case "ofJoint": return new int[] {puppet, number(m.has(m.puppets, puppet) ? m.puppets.get(puppet).worn.length : 2), number(2)};
            case "left": return new int[] {puppet, sound};
            case "film": return new int[] {number(below(2) == 0 ? 6 : 100)};
            default: return new int[] {shot};
        }
    }

    private static String answerOfClass(FrameClay x, String name, int[] a) {
        try {
            return "" + callOfClass(x, name, a);
        } catch (RuntimeException e) {
            return e.getClass() == IllegalStateException.class && name.equals("strike")
                ? "strike refused: " + e.getMessage() : e.getClass().getSimpleName();
        }
    }

    private static long callOfClass(FrameClay x, String name, int[] a) {
        switch (name) {
            case "puppet": return x.puppet(a[0]);
            case "mouths": return x.mouths(a[0], a[1], a[2]);
            case "sound": return x.sound(a[0], a[1]);
            case "voice": return x.voice();
            case "shot": return x.shot(a[0], a[1], a[2], a[3]);
            case "assign": return x.assign(a[0], a[1]);
            case "ill": return x.ill(a[0], a[1] == 1) ? 1 : 0;
            case "dub": return x.dub(a[0], a[1]);
            case "key": return x.key(a[0], a[1], a[2], a[3]);
            case "camera": return x.camera(a[0], a[1], a[2]);
            case "play": return x.play(a[0]);
            case "strike": return x.strike(a[0]);
            case "bump": return x.bump(a[0], a[1]);
            case "level": return x.level(a[0]);
            case "anew": return x.anew(a[0], a[1]);
            case "mend": return x.mend(a[0], a[1]);
            case "lamp": return x.lamp();
            case "cut": return x.cut(a[0]);
            case "cutOut": return x.cutOut(a[0]);
            case "degree": return x.degree(a[0], a[1], a[2]);
            case "mouth": return x.mouth(a[0], a[1]);
            case "place": return x.place(a[0], a[1]);
            case "wants": return x.wants(a[0], a[1]);
            case "bars": return x.bars(a[0]);
            case "wears": return x.wears(a[0], a[1]);
            case "struck": return x.struck(a[0]);
            case "pose": return x.pose(a[0], a[1], a[2]);
            case "ofFrame": return x.ofFrame(a[0], a[1], a[2]);
            case "faults": return x.faults(a[0], a[1]);
            case "ofJoint": return x.ofJoint(a[0], a[1], a[2]);
            case "left": return x.left(a[0], a[1]);
            case "light": return x.light();
            default: return x.film(a[0]);
        }
    }

    /** What the document asks for: a number, or the exception's name; of a strike its reason too. */
    private static String answerOfModel(Model m, String name, int[] a) {
        try {
            return "" + m.call(name, a);
        } catch (Model.Refusal e) {
            return e.getMessage();
        }
    }

    private static final class Model {
        static final class Refusal extends RuntimeException {
            private static final long serialVersionUID = 1L;

            Refusal(String message) {
                super(message);
            }
        }

        static final class Puppet {
            int[] stands;
            int[] worn;
            int[] mouths = new int[10];
        }

        static final class Frame {
            int[] pose;
            int mouth;
            int told;
            int camera;
            int light;
            int table;
        }

        static final class Shot {
            Puppet puppet;
            int frames;
            int step;
            int voice;
            int animator = -1;
            int table = 0;
            final List<TreeMap<Integer, Integer>> keys = new ArrayList<>();
            final TreeMap<Integer, Integer> camera = new TreeMap<>();
            final List<Frame> struck = new ArrayList<>();
        }

        final List<Puppet> puppets = new ArrayList<>();
        final List<List<Integer>> voices = new ArrayList<>();
        final List<Shot> shots = new ArrayList<>();
        final List<Integer> film = new ArrayList<>();
        private final boolean[] ill = new boolean[5];
        private List<Integer> spoken = new ArrayList<>();
        private int sounds = 0;
        private int play = 0;
        private int since = 0;

        boolean has(List<?> of, int number) {
            return number >= 0 && number < of.size();
        }

        private void index(boolean is) {
            if (!is) {
                throw new Refusal("IndexOutOfBoundsException");
            }
        }

        private void range(long value, long least, long most) {
            if (value < least || value > most) {
                throw new Refusal("IllegalArgumentException");
            }
        }

        private void state(boolean is) {
            if (!is) {
                throw new Refusal("IllegalStateException");
            }
        }

        private Shot shot(int number) {
            index(has(shots, number));
            return shots.get(number);
        }

        private Puppet puppet(int number) {
            index(has(puppets, number));
            return puppets.get(number);
        }

        private void joint(Puppet p, int joint) {
            index(joint >= 0 && joint < p.worn.length);
        }

        private void frame(Shot s, int frame) {
            index(frame >= 0 && frame < s.frames);
        }

        private boolean underWay(Shot s) {
            return !s.struck.isEmpty() && s.struck.size() < s.frames;
        }

        private boolean held(Shot s, int frame) {
            return s.step == 2 && frame % 2 != 0;
        }

        private int way(int from, int to) {
            int way = to - from;
            while (way > 180) {
                way -= 360;
            }
            while (way <= -180) {
                way += 360;
            }
            return way;
        }

        private int degree(Shot s, int joint, int frame) {
            if (held(s, frame)) {
                return degree(s, joint, frame - 1);
            }
            Map.Entry<Integer, Integer> first = s.keys.get(joint).floorEntry(frame);
            Map.Entry<Integer, Integer> second = s.keys.get(joint).ceilingEntry(frame);
            if (first == null || second == null) {
                return first != null ? first.getValue() : second != null ? second.getValue() : 0;
            }
            if (first.getKey() == frame) {
                return first.getValue();
            }
            int gone = way(first.getValue(), second.getValue()) * (frame - first.getKey());
            int degree = first.getValue() + gone / (second.getKey() - first.getKey());
            return (degree + 720) % 360;
        }

        private int place(Shot s, int frame) {
            Map.Entry<Integer, Integer> first = s.camera.floorEntry(frame);
            Map.Entry<Integer, Integer> second = s.camera.ceilingEntry(frame);
            if (first == null || second == null) {
                return first != null ? first.getValue() : second != null ? second.getValue() : 0;
            }
            if (first.getKey() == frame) {
                return first.getValue();
            }
            int gone = (second.getValue() - first.getValue()) * (frame - first.getKey());
            return first.getValue() + gone / (second.getKey() - first.getKey());
        }

        private int mouth(Shot s, int frame) {
            int at = held(s, frame) ? frame - 1 : frame;
            return s.voice < 0 || at >= voices.get(s.voice).size() ? -1 : voices.get(s.voice).get(at);
        }

        private int light() {
            int light = 1000;
            for (int i = 3; i <= since && light > 500; i += 3) {
                light--;
            }
            return light;
        }

        private Frame last(Shot s) {
            return s.struck.isEmpty() ? null : s.struck.get(s.struck.size() - 1);
        }

        private int wanted(Shot s) {
            int frame = s.struck.size();
            int mouth = mouth(s, frame);
            return held(s, frame) || last(s) != null && last(s).mouth == mouth ? -1 : mouth;
        }

        private int bars(Shot s) {
            int frame = s.struck.size();
            if (frame == s.frames) {
                return 7;
            }
            if (s.animator < 0 || ill[s.animator]) {
                return s.animator < 0 ? 1 : 2;
            }
            int bar = 9;
            for (Shot other : shots) {
                if (other != s && underWay(other)) {
                    bar = Math.min(bar, other.animator == s.animator ? 3 : other.puppet == s.puppet ? 4 : 9);
                }
            }
            if (bar < 9 || held(s, frame)) {
                return bar % 9;
            }
            for (int worn : s.puppet.worn) {
                if (worn >= 1000) {
                    return 5;
                }
            }
            return wanted(s) >= 0 && s.puppet.mouths[wanted(s)] == 0 ? 6 : 0;
        }

        private int cameraOf(Shot s, int told) {
            List<Integer> places = new ArrayList<>();
            for (Frame f : s.struck) {
                places.add(f.told);
            }
            places.add(told);
            boolean up = false;
            boolean moved = false;
            boolean turned = false;
            for (int i = 1; i < places.size(); i++) {
                int by = places.get(i) - places.get(i - 1);
                if (by != 0) {
                    turned |= moved && up != by > 0;
                    moved = true;
                    up = by > 0;
                }
            }
            return !turned ? told : up ? told - play : told + play;
        }

        private int strike(Shot s) {
            String[] reasons = {"", "the shot has no animator", "the animator is ill",
                "another shot has begun, and is not done", "another shot has begun, and is not done",
                "a joint is broken", "no such mouth is left", "the shot is done"};
            if (bars(s) != 0) {
                throw new Refusal("strike refused: " + reasons[bars(s)]);
            }
            int frame = s.struck.size();
            Frame f = new Frame();
            if (held(s, frame)) {
                f.pose = last(s).pose;
                f.mouth = last(s).mouth;
            } else {
                f.mouth = mouth(s, frame);
                if (wanted(s) >= 0) {
                    s.puppet.mouths[wanted(s)]--;
                }
                f.pose = new int[s.puppet.worn.length];
                for (int j = 0; j < f.pose.length; j++) {
                    f.pose[j] = degree(s, j, frame);
                    s.puppet.worn[j] += Math.abs(way(s.puppet.stands[j], f.pose[j]));
                    s.puppet.stands[j] = f.pose[j];
                }
            }
            f.told = place(s, frame);
            f.camera = cameraOf(s, f.told);
            f.light = light();
            f.table = s.table;
            s.struck.add(f);
            since++;
            return frame;
        }

        private Frame struckFrame(Shot s, int frame) {
            index(has(s.struck, frame));
            return s.struck.get(frame);
        }

        private int faults(Shot s, int frame) {
            Frame f = struckFrame(s, frame);
            int bits = 0;
            for (int j = 0; j < f.pose.length; j++) {
                bits |= f.pose[j] != degree(s, j, frame) ? 1 : 0;
            }
            bits |= f.mouth != mouth(s, frame) ? 2 : 0;
            bits |= f.table != 0 ? 4 : 0;
            bits |= frame > 0 && Math.abs(f.light - s.struck.get(frame - 1).light) > 20 ? 8 : 0;
            bits |= f.camera != place(s, frame) ? 16 : 0;
            return bits;
        }

        private List<Integer> filmFrames() {
            List<Integer> frames = new ArrayList<>();
            for (int shot : film) {
                for (int f = 0; f < shots.get(shot).frames; f++) {
                    frames.add(100 * shot + f);
                }
            }
            return frames;
        }

        private int wears(Shot s, int joint) {
            int sum = 0;
            int at = s.puppet.stands[joint];
            for (int f = s.struck.size(); f < s.frames; f++) {
                if (!held(s, f)) {
                    sum += Math.abs(way(at, degree(s, joint, f)));
                    at = degree(s, joint, f);
                }
            }
            return sum;
        }

        private int wants(Shot s, int sound) {
            int many = mouth(s, 0) == sound ? 1 : 0;
            for (int f = 1; f < s.frames; f++) {
                many += mouth(s, f) == sound && mouth(s, f - 1) != sound ? 1 : 0;
            }
            return many;
        }

        int call(String name, int[] a) {
            switch (name) {
                case "puppet": case "mouths": case "sound": case "voice": case "mend": case "ofJoint": case "left":
                    return callOfPuppets(name, a);
                case "shot": case "assign": case "ill": case "dub": case "key": case "camera": case "play":
                    return callOfShots(name, a);
                case "strike": case "bump": case "level": case "anew": case "lamp": case "cut": case "cutOut":
                    return callOfStriking(name, a);
                default:
                    return question(name, a);
            }
        }

        private int callOfPuppets(String name, int[] a) {
            switch (name) {
                case "puppet":
                    range(a[0], 1, 6);
                    state(puppets.size() < 5);
                    Puppet made = new Puppet();
                    made.stands = new int[a[0]];
                    made.worn = new int[a[0]];
                    puppets.add(made);
                    return puppets.size() - 1;
                case "mouths":
                    Puppet given = puppet(a[0]);
                    range(a[1], 0, 9);
                    range(a[2], 1, 9);
                    state(given.mouths[a[1]] + a[2] <= 9);
                    return given.mouths[a[1]] += a[2];
                case "sound":
                    range(a[0], 0, 9);
                    range(a[1], 1, 24);
                    state(sounds < 12);
                    for (int i = 0; i < a[1]; i++) {
                        spoken.add(a[0]);
                    }
                    return ++sounds;
                case "voice":
                    state(sounds > 0 && voices.size() < 6);
                    voices.add(spoken);
                    spoken = new ArrayList<>();
                    sounds = 0;
                    return voices.size() - 1;
                case "mend":
                    Puppet mended = puppet(a[0]);
                    joint(mended, a[1]);
                    int worn = mended.worn[a[1]];
                    mended.worn[a[1]] = 0;
                    return worn;
                case "ofJoint":
                    joint(puppet(a[0]), a[1]);
                    range(a[2], 0, 1);
                    return (a[2] == 0 ? puppet(a[0]).stands : puppet(a[0]).worn)[a[1]];
                default:
                    puppet(a[0]);
                    range(a[1], 0, 9);
                    return puppet(a[0]).mouths[a[1]];
            }
        }

        private int callOfShots(String name, int[] a) {
            int before;
            switch (name) {
                case "shot":
                    Shot made = new Shot();
                    made.puppet = puppet(a[0]);
                    index(a[3] == -1 || has(voices, a[3]));
                    range(a[1], 1, 48);
                    range(a[2], 1, 2);
                    state(shots.size() < 8);
                    made.frames = a[1];
                    made.step = a[2];
                    made.voice = a[3];
                    for (int j = 0; j < made.puppet.worn.length; j++) {
                        made.keys.add(new TreeMap<>());
                    }
                    shots.add(made);
                    return shots.size() - 1;
                case "assign":
                    Shot s = shot(a[0]);
                    index(a[1] >= 0 && a[1] < 5);
                    state(s.struck.size() < s.frames);
                    state(s.struck.isEmpty() || ill[s.animator]);
                    before = s.animator;
                    s.animator = a[1];
                    return before;
                case "ill":
                    index(a[0] >= 0 && a[0] < 5);
                    before = ill[a[0]] ? 1 : 0;
                    ill[a[0]] = a[1] == 1;
                    return before;
                case "dub":
                    index(has(shots, a[0]) && (a[1] == -1 || has(voices, a[1])));
                    before = shot(a[0]).voice;
                    shot(a[0]).voice = a[1];
                    return before;
                case "key":
                    joint(shot(a[0]).puppet, a[1]);
                    frame(shot(a[0]), a[2]);
                    range(a[3], 0, 359);
                    state(a[2] >= shot(a[0]).struck.size() && !held(shot(a[0]), a[2]));
                    before = degree(shot(a[0]), a[1], a[2]);
                    shot(a[0]).keys.get(a[1]).put(a[2], a[3]);
                    return before;
                case "camera":
                    frame(shot(a[0]), a[1]);
                    range(a[2], -999, 999);
                    state(a[1] >= shot(a[0]).struck.size());
                    before = place(shot(a[0]), a[1]);
                    shot(a[0]).camera.put(a[1], a[2]);
                    return before;
                default:
                    range(a[0], 0, 20);
                    before = play;
                    play = a[0];
                    return before;
            }
        }

        private int callOfStriking(String name, int[] a) {
            if (name.equals("lamp")) {
                int light = light();
                since = 0;
                return light;
            }
            Shot s = shot(a[0]);
            switch (name) {
                case "strike":
                    return strike(s);
                case "bump":
                    range(a[1], -99, 99);
                    state(!s.struck.isEmpty());
                    return s.table += a[1];
                case "level":
                    int sum = s.table;
                    s.table = 0;
                    return sum;
                case "anew":
                    frame(s, a[1]);
                    state(a[1] < s.struck.size() && !film.contains(a[0]));
                    int many = s.struck.size() - a[1];
                    s.struck.subList(a[1], s.struck.size()).clear();
                    return many;
                case "cut":
                    state(s.struck.size() == s.frames && !film.contains(a[0]));
                    film.add(a[0]);
                    return filmFrames().size();
                default:
                    state(film.remove((Integer) a[0]));
                    return filmFrames().size();
            }
        }

        private int question(String name, int[] a) {
            if (name.equals("light")) {
                return light();
            }
            if (name.equals("film")) {
                index(a[0] >= 0);
                return a[0] < filmFrames().size() ? filmFrames().get(a[0]) : -1;
            }
            Shot s = shot(a[0]);
            switch (name) {
                case "degree":
                    joint(s.puppet, a[1]);
                    frame(s, a[2]);
                    return degree(s, a[1], a[2]);
                case "mouth":
                    frame(s, a[1]);
                    return mouth(s, a[1]);
                case "place":
                    frame(s, a[1]);
                    return place(s, a[1]);
                case "wants":
                    range(a[1], 0, 9);
                    return wants(s, a[1]);
                case "bars":
                    return bars(s);
                case "wears":
                    joint(s.puppet, a[1]);
                    return wears(s, a[1]);
                case "struck":
                    return s.struck.size();
                case "pose":
                    joint(s.puppet, a[1]);
                    return struckFrame(s, a[2]).pose[a[1]];
                case "faults":
                    return faults(s, a[1]);
                default:
                    Frame f = struckFrame(s, a[1]);
                    range(a[2], 0, 3);
                    return new int[] {f.mouth, f.camera, f.light, f.table}[a[2]];
            }
        }
    }
}
