/** Each promise of ../shared/DOC.md by hand: ordinary inputs, the edges that it names, wrong inputs. */
public final class PromiseTest {
    private static final Class<?> INDEX = IndexOutOfBoundsException.class;
    private static final Class<?> ARGUMENT = IllegalArgumentException.class;
    private static final Class<?> STATE = IllegalStateException.class;
    private static final int NONE = FrameClay.NONE;
    private static final int[] NO_NUMBERS = {-1, 99, Integer.MAX_VALUE, Integer.MIN_VALUE};

    private static int checked = 0;
    private static int wrong = 0;
    private static String promise = "";

    private interface Call {
        long answer();
    }

    public static void main(String[] args) {
        newObject();
        puppet();
        mouths();
        sound();
        voice();
        shot();
        assign();
        ill();
        dub();
        key();
        camera();
        play();
        strike();
        strikeMouths();
        strikeMotor();
        bump();
        level();
        anew();
        mend();
        lamp();
        cut();
        cutOut();
        degree();
        mouth();
        place();
        wants();
        bars();
        wears();
        struck();
        pose();
        ofFrame();
        faults();
        ofJoint();
        left();
        light();
        film();
        System.out.println(wrong + " of " + checked + " answers are not as due");
        if (wrong != 0) {
            System.exit(1);
        }
    }

    private static void due(String call, long got, long want) {
        checked++;
        if (got != want) {
            wrong++;
            System.out.println("promise " + promise + ": " + call + " answered " + got + ", due is " + want);
        }
    }

    /** The call throws exactly this class; that it changes nothing then shows in ModelTest's runs. */
    private static void refused(String call, Class<?> want, Call it) {
        Class<?> got = null;
        try {
            it.answer();
        } catch (RuntimeException e) {
            got = e.getClass();
        }
        checked++;
        if (got != want) {
            wrong++;
            System.out.println("promise " + promise + ": " + call + " threw " + got + ", due is " + want);
        }
    }

    /** A puppet of 2 joints, a shot 0 of it, with so many frames, and animator 0. */
    private static FrameClay oneShot(int frames, int step) {
        FrameClay x = new FrameClay();
        x.puppet(2);
        x.shot(0, frames, step, NONE);
        x.assign(0, 0);
        return x;
    }

    private static void strikes(FrameClay x, int shot, int many) {
        for (int i = 0; i < many; i++) {
            x.strike(shot);
        }
    }

    /** A voice of pairs: a sound, and its frames. */
    private static int speak(FrameClay x, int... pairs) {
        for (int i = 0; i < pairs.length; i += 2) {
            x.sound(pairs[i], pairs[i + 1]);
        }
        return x.voice();
    }

    private static void newObject() {
        promise = "1";
        FrameClay x = new FrameClay();
        due("NONE", NONE, -1);
        due("light", x.light(), 1000);
        due("film(0)", x.film(0), NONE);
        refused("ofJoint", INDEX, () -> x.ofJoint(0, 0, 0));
        refused("left", INDEX, () -> x.left(0, 0));
        refused("struck", INDEX, () -> x.struck(0));
        refused("voice", STATE, () -> x.voice());
        due("play", x.play(0), 0);
        for (int i = 0; i < 5; i++) {
            due("ill", x.ill(i, false) ? 1 : 0, 0);
        }
        due("puppet", x.puppet(1), 0);
        refused("no voice 0", INDEX, () -> x.shot(0, 1, 1, 0));
    }

    private static void puppet() {
        promise = "2";
        FrameClay x = new FrameClay();
        refused("puppet(0)", ARGUMENT, () -> x.puppet(0));
        refused("puppet(7)", ARGUMENT, () -> x.puppet(7));
        refused("puppet(MIN)", ARGUMENT, () -> x.puppet(Integer.MIN_VALUE));
        refused("puppet(MAX)", ARGUMENT, () -> x.puppet(Integer.MAX_VALUE));
        int[] joints = {1, 6, 2, 3, 4};
        for (int i = 0; i < 5; i++) {
            int p = i;
            due("puppet", x.puppet(joints[i]), i);
            due("last joint stands", x.ofJoint(i, joints[i] - 1, 0), 0);
            due("last joint worn", x.ofJoint(i, joints[i] - 1, 1), 0);
            due("left", x.left(i, 9), 0);
            refused("joint behind the last", INDEX, () -> x.ofJoint(p, joints[p], 0));
        }
        refused("sixth", STATE, () -> x.puppet(1));
        refused("sixth, and out of range", ARGUMENT, () -> x.puppet(7));
    }

    private static void mouths() {
        promise = "3";
        FrameClay x = new FrameClay();
        refused("no puppet, and out of range", INDEX, () -> x.mouths(0, 10, 0));
        x.puppet(1);
        x.puppet(1);
        for (int no : NO_NUMBERS) {
            refused("mouths of puppet " + no, INDEX, () -> x.mouths(no, 0, 1));
        }
        refused("puppet 2", INDEX, () -> x.mouths(2, 0, 1));
        refused("sound -1", ARGUMENT, () -> x.mouths(0, -1, 1));
        refused("sound 10", ARGUMENT, () -> x.mouths(0, 10, 1));
        refused("many 0", ARGUMENT, () -> x.mouths(0, 0, 0));
        refused("many 10", ARGUMENT, () -> x.mouths(0, 0, 10));
        due("mouths 9", x.mouths(0, 9, 9), 9);
        due("mouths 2", x.mouths(0, 0, 2), 2);
        due("mouths 2 + 6", x.mouths(0, 0, 6), 8);
        refused("8 + 2", STATE, () -> x.mouths(0, 0, 2));
        refused("8 + 10", ARGUMENT, () -> x.mouths(0, 0, 10));
        refused("8 + MAX", ARGUMENT, () -> x.mouths(0, 0, Integer.MAX_VALUE));
        due("8 + 1", x.mouths(0, 0, 1), 9);
        due("of the other puppet", x.mouths(1, 0, 1), 1);
        due("left", x.left(0, 0), 9);
    }

    private static void sound() {
        promise = "4";
        FrameClay x = new FrameClay();
        refused("sound -1", ARGUMENT, () -> x.sound(-1, 1));
        refused("sound 10", ARGUMENT, () -> x.sound(10, 1));
        refused("frames 0", ARGUMENT, () -> x.sound(0, 0));
        refused("frames 25", ARGUMENT, () -> x.sound(0, 25));
        due("first", x.sound(9, 24), 1);
        for (int i = 2; i <= 12; i++) {
            due("further", x.sound(0, 1), i);
        }
        refused("thirteenth", STATE, () -> x.sound(0, 1));
        refused("thirteenth, out of range", ARGUMENT, () -> x.sound(0, 25));
        due("voice", x.voice(), 0);
        due("of the next voice", x.sound(3, 1), 1);
        x.puppet(1);
        x.shot(0, 48, 1, 0);
        due("the last frame of the twelfth sound", x.mouth(0, 34), 0);
        due("behind twelve sounds", x.mouth(0, 35), NONE);
    }

    private static void voice() {
        promise = "5";
        FrameClay x = new FrameClay();
        refused("without a sound", STATE, () -> x.voice());
        for (int i = 0; i < 6; i++) {
            x.sound(i, 24);
            due("voice", x.voice(), i);
            refused("the next without a sound", STATE, () -> x.voice());
        }
        due("sound is spoken still", x.sound(1, 1), 1);
        refused("seventh", STATE, () -> x.voice());
        due("the spoken one is kept", x.sound(1, 1), 2);
        x.puppet(1);
        for (int i = 0; i < 6; i++) {
            due("shot with voice", x.shot(0, 48, 1, i), i);
            due("its mouth", x.mouth(i, 23), i);
            due("behind its end", x.mouth(i, 24), NONE);
        }
    }

    private static void shot() {
        promise = "6";
        FrameClay x = new FrameClay();
        x.puppet(1);
        speak(x, 1, 1);
        for (int no : NO_NUMBERS) {
            refused("puppet " + no, INDEX, () -> x.shot(no, 1, 1, 0));
        }
        refused("puppet 1, all wrong", INDEX, () -> x.shot(1, 0, 0, 0));
        refused("voice 1", INDEX, () -> x.shot(0, 1, 1, 1));
        refused("voice -2, all wrong", INDEX, () -> x.shot(0, 49, 3, -2));
        refused("frames 0", ARGUMENT, () -> x.shot(0, 0, 1, NONE));
        refused("frames 49", ARGUMENT, () -> x.shot(0, 49, 1, NONE));
        refused("step 0", ARGUMENT, () -> x.shot(0, 1, 0, NONE));
        refused("step 3", ARGUMENT, () -> x.shot(0, 1, 3, NONE));
        for (int i = 0; i < 8; i++) {
            int s = i;
            due("shot", x.shot(0, i + 1, 1 + i % 2, i % 2 - 1), i);
            due("struck", x.struck(i), 0);
            due("without an animator", x.bars(i), 1);
            due("mouth", x.mouth(i, 0), i % 2 == 0 ? NONE : 1);
            due("last frame", x.degree(i, 0, i), 0);
            refused("frame behind the last", INDEX, () -> x.degree(s, 0, s + 1));
        }
        refused("ninth", STATE, () -> x.shot(0, 1, 1, NONE));
        refused("ninth, out of range", ARGUMENT, () -> x.shot(0, 1, 3, NONE));
        refused("ninth, no puppet", INDEX, () -> x.shot(1, 1, 3, NONE));
    }

    private static void assign() {
        promise = "7";
        FrameClay x = new FrameClay();
        x.puppet(1);
        x.shot(0, 2, 1, NONE);
        for (int no : NO_NUMBERS) {
            refused("shot " + no, INDEX, () -> x.assign(no, 0));
            refused("animator " + no, INDEX, () -> x.assign(0, no));
        }
        refused("shot 1", INDEX, () -> x.assign(1, 0));
        refused("animator 5", INDEX, () -> x.assign(0, 5));
        due("first", x.assign(0, 4), NONE);
        due("another", x.assign(0, 1), 4);
        due("the same", x.assign(0, 1), 1);
        x.strike(0);
        refused("begun", STATE, () -> x.assign(0, 2));
        refused("begun, no animator", INDEX, () -> x.assign(0, 5));
        x.ill(1, true);
        due("begun, and ill", x.assign(0, 2), 1);
        refused("begun, the other one is ill", STATE, () -> x.assign(0, 1));
        x.strike(0);
        refused("done", STATE, () -> x.assign(0, 0));
        x.ill(2, true);
        refused("done, and ill", STATE, () -> x.assign(0, 0));
        x.ill(2, false);
        x.anew(0, 0);
        due("all thrown away", x.assign(0, 0), 2);
    }

    private static void ill() {
        promise = "8";
        FrameClay x = oneShot(1, 1);
        for (int no : NO_NUMBERS) {
            refused("animator " + no, INDEX, () -> x.ill(no, true) ? 1 : 0);
        }
        refused("animator 5", INDEX, () -> x.ill(5, false) ? 1 : 0);
        due("first", x.ill(0, true) ? 1 : 0, 0);
        due("again", x.ill(0, true) ? 1 : 0, 1);
        due("bars", x.bars(0), 2);
        due("well", x.ill(0, false) ? 1 : 0, 1);
        due("well again", x.ill(0, false) ? 1 : 0, 0);
        due("bars", x.bars(0), 0);
        due("the last one", x.ill(4, true) ? 1 : 0, 0);
        due("another one", x.ill(3, true) ? 1 : 0, 0);
        due("bars", x.bars(0), 0);
    }

    private static void dub() {
        promise = "9";
        FrameClay x = oneShot(2, 1);
        speak(x, 4, 1);
        speak(x, 5, 2);
        for (int no : NO_NUMBERS) {
            refused("shot " + no, INDEX, () -> x.dub(no, 0));
        }
        refused("voice 2", INDEX, () -> x.dub(0, 2));
        refused("voice -2", INDEX, () -> x.dub(0, -2));
        due("first", x.dub(0, 0), NONE);
        due("mouth", x.mouth(0, 0), 4);
        due("another", x.dub(0, 1), 0);
        due("mouth", x.mouth(0, 1), 5);
        due("none", x.dub(0, NONE), 1);
        due("mouth", x.mouth(0, 0), NONE);
        strikes(x, 0, 2);
        x.cut(0);
        due("one in the film", x.dub(0, 1), NONE);
        due("its mouth", x.mouth(0, 0), 5);
        due("it kept none", x.ofFrame(0, 0, 0), NONE);
    }

    private static void key() {
        promise = "10";
        FrameClay x = oneShot(9, 2);
        for (int no : NO_NUMBERS) {
            refused("shot " + no, INDEX, () -> x.key(no, 0, 0, 0));
            refused("joint " + no, INDEX, () -> x.key(0, no, 0, 0));
            refused("frame " + no, INDEX, () -> x.key(0, 0, no, 360));
        }
        refused("joint 2", INDEX, () -> x.key(0, 2, 0, 0));
        refused("frame 9", INDEX, () -> x.key(0, 0, 9, 0));
        refused("degree 360", ARGUMENT, () -> x.key(0, 0, 0, 360));
        refused("degree -1, held", ARGUMENT, () -> x.key(0, 0, 1, -1));
        refused("held", STATE, () -> x.key(0, 0, 1, 0));
        refused("held", STATE, () -> x.key(0, 0, 7, 0));
        due("first", x.key(0, 0, 4, 359), 0);
        due("in its place", x.key(0, 0, 4, 100), 359);
        due("ahead", x.key(0, 0, 0, 0), 100);
        due("between", x.key(0, 0, 2, 7), 50);
        due("the last frame", x.key(0, 0, 8, 1), 100);
        due("the other joint", x.degree(0, 1, 4), 0);
        strikes(x, 0, 3);
        refused("struck", STATE, () -> x.key(0, 0, 2, 0));
        refused("struck, degree 360", ARGUMENT, () -> x.key(0, 0, 2, 360));
        due("the next one", x.key(0, 0, 4, 107), 100);
        due("what it changes of one between", x.degree(0, 0, 6), 54);
        x.anew(0, 2);
        due("not struck now", x.key(0, 0, 2, 8), 7);
    }

    private static void camera() {
        promise = "11";
        FrameClay x = oneShot(6, 2);
        for (int no : NO_NUMBERS) {
            refused("shot " + no, INDEX, () -> x.camera(no, 0, 0));
            refused("frame " + no, INDEX, () -> x.camera(0, no, 1000));
        }
        refused("frame 6", INDEX, () -> x.camera(0, 6, 0));
        refused("place 1000", ARGUMENT, () -> x.camera(0, 0, 1000));
        refused("place -1000", ARGUMENT, () -> x.camera(0, 0, -1000));
        due("first", x.camera(0, 5, 999), 0);
        due("in its place", x.camera(0, 5, -999), 999);
        due("held", x.camera(0, 1, 5), -999);
        due("between", x.camera(0, 3, 0), -497);
        x.strike(0);
        refused("struck", STATE, () -> x.camera(0, 0, 0));
        refused("struck, out of range", ARGUMENT, () -> x.camera(0, 0, 1000));
        due("the next one", x.camera(0, 1, 6), 5);
    }

    private static void play() {
        promise = "12";
        FrameClay x = new FrameClay();
        refused("play -1", ARGUMENT, () -> x.play(-1));
        refused("play 21", ARGUMENT, () -> x.play(21));
        due("first", x.play(20), 0);
        refused("play 21", ARGUMENT, () -> x.play(21));
        due("again", x.play(7), 20);
        due("again", x.play(0), 7);
    }

    private static void strike() {
        promise = "13";
        FrameClay x = oneShot(5, 2);
        for (int no : NO_NUMBERS) {
            refused("shot " + no, INDEX, () -> x.strike(no));
        }
        refused("shot 1", INDEX, () -> x.strike(1));
        x.key(0, 0, 0, 350);
        x.key(0, 0, 4, 170);
        x.key(0, 1, 2, 181);
        due("first", x.strike(0), 0);
        due("stands", x.ofJoint(0, 0, 0), 350);
        due("worn, the shorter way", x.ofJoint(0, 0, 1), 10);
        due("worn", x.ofJoint(0, 1, 1), 179);
        x.key(0, 0, 2, 5);
        due("held", x.strike(0), 1);
        due("is not posed", x.ofJoint(0, 0, 0), 350);
        due("and keeps what the one ahead kept", x.pose(0, 0, 1), 350);
        due("third", x.strike(0), 2);
        due("worn", x.ofJoint(0, 0, 1), 25);
        due("fourth", x.strike(0), 3);
        due("fifth", x.strike(0), 4);
        due("worn", x.ofJoint(0, 0, 1), 190);
        due("stands", x.ofJoint(0, 0, 0), 170);
        refused("done", STATE, () -> x.strike(0));
    }

    private static void strikeMouths() {
        FrameClay x = new FrameClay();
        x.puppet(1);
        speak(x, 1, 2, 2, 2, 1, 2);
        speak(x, 2, 9);
        x.shot(0, 6, 1, 0);
        x.assign(0, 0);
        refused("no mouth", STATE, () -> x.strike(0));
        x.mouths(0, 1, 1);
        x.mouths(0, 2, 1);
        strikes(x, 0, 2);
        due("one is used up", x.left(0, 1), 0);
        x.dub(0, 1);
        strikes(x, 0, 1);
        due("the other is used up", x.left(0, 2), 0);
        x.anew(0, 2);
        due("it does not come back", x.left(0, 2), 0);
        refused("no mouth is left", STATE, () -> x.strike(0));
        x.dub(0, 0);
        refused("no mouth is left", STATE, () -> x.strike(0));
        x.dub(0, NONE);
        strikes(x, 0, 1);
        due("none kept", x.ofFrame(0, 2, 0), NONE);
        x.dub(0, 0);
        refused("behind none it changes", STATE, () -> x.strike(0));
        x.mouths(0, 2, 1);
        x.mouths(0, 1, 2);
        strikes(x, 0, 3);
        due("one of two is used up", x.left(0, 1), 1);
        due("used up", x.left(0, 2), 0);
    }

    private static void strikeMotor() {
        FrameClay x = oneShot(9, 2);
        int[] places = {5, 9, 9, 3, 3, 8, 8, 9, 0};
        int[] due = {5, 9, 9, 7, 7, 4, 4, 5, 4};
        for (int f = 0; f < 9; f++) {
            x.camera(0, f, places[f]);
        }
        x.play(4);
        for (int f = 0; f < 9; f++) {
            x.strike(0);
            due("camera of frame " + f, x.ofFrame(0, f, 1), due[f]);
        }
        x.anew(0, 3);
        due("a key of a frame thrown away", x.camera(0, 3, 12), 3);
        x.play(3);
        x.strike(0);
        due("it has not turned in what is left", x.ofFrame(0, 3, 1), 12);
        x.strike(0);
        due("it turns", x.ofFrame(0, 4, 1), 6);
        x.anew(0, 1);
        x.camera(0, 1, 5);
        x.camera(0, 2, 4);
        strikes(x, 0, 2);
        due("a first way down is no turn", x.ofFrame(0, 2, 1), 4);
        x.camera(0, 3, 6);
        strikes(x, 0, 1);
        due("a turn up", x.ofFrame(0, 3, 1), 3);
        motorKeepsWhatWasTold();
    }

    private static void motorKeepsWhatWasTold() {
        FrameClay x = oneShot(4, 1);
        x.camera(0, 0, 10);
        x.play(2);
        strikes(x, 0, 2);
        x.camera(0, 2, 30);
        due("the sheet of a struck frame", x.place(0, 1), 20);
        x.camera(0, 2, 15);
        x.camera(0, 3, 12);
        strikes(x, 0, 1);
        due("from 10 as told then, up", x.ofFrame(0, 2, 1), 15);
        strikes(x, 0, 1);
        due("and down", x.ofFrame(0, 3, 1), 14);
        due("another shot has not turned", secondShotCamera(x), 1);
    }

    private static int secondShotCamera(FrameClay x) {
        x.shot(0, 2, 1, NONE);
        x.assign(1, 0);
        x.camera(1, 0, 9);
        x.camera(1, 1, 1);
        strikes(x, 1, 2);
        return x.ofFrame(1, 1, 1);
    }

    private static void bump() {
        promise = "14";
        FrameClay x = oneShot(4, 2);
        for (int no : NO_NUMBERS) {
            refused("shot " + no, INDEX, () -> x.bump(no, 100));
        }
        refused("not begun", STATE, () -> x.bump(0, 1));
        refused("not begun, out of range", ARGUMENT, () -> x.bump(0, 100));
        x.strike(0);
        refused("100", ARGUMENT, () -> x.bump(0, 100));
        refused("-100", ARGUMENT, () -> x.bump(0, -100));
        due("first", x.bump(0, 99), 99);
        due("sum", x.bump(0, 99), 198);
        x.strike(0);
        due("sum", x.bump(0, -99), 99);
        due("nothing", x.bump(0, 0), 99);
        x.strike(0);
        due("what was struck ahead", x.ofFrame(0, 0, 3), 0);
        due("a held one", x.ofFrame(0, 1, 3), 198);
        due("behind", x.ofFrame(0, 2, 3), 99);
        x.strike(0);
        due("done", x.bump(0, 1), 100);
        x.anew(0, 0);
        refused("thrown away", STATE, () -> x.bump(0, 1));
        x.strike(0);
        due("the table stays as it is", x.ofFrame(0, 0, 3), 100);
    }

    private static void level() {
        promise = "15";
        FrameClay x = oneShot(3, 1);
        for (int no : NO_NUMBERS) {
            refused("shot " + no, INDEX, () -> x.level(no));
        }
        due("not begun", x.level(0), 0);
        x.strike(0);
        x.bump(0, -5);
        x.bump(0, -6);
        x.strike(0);
        due("sum", x.level(0), -11);
        due("level", x.level(0), 0);
        x.strike(0);
        due("bumped", x.ofFrame(0, 1, 3), -11);
        due("level", x.ofFrame(0, 2, 3), 0);
        due("sum since", x.bump(0, 2), 2);
    }

    private static void anew() {
        promise = "16";
        FrameClay x = oneShot(4, 2);
        for (int no : NO_NUMBERS) {
            refused("shot " + no, INDEX, () -> x.anew(no, 0));
            refused("frame " + no, INDEX, () -> x.anew(0, no));
        }
        refused("frame 4", INDEX, () -> x.anew(0, 4));
        refused("not struck", STATE, () -> x.anew(0, 0));
        x.key(0, 0, 0, 100);
        strikes(x, 0, 4);
        due("the last", x.anew(0, 3), 1);
        refused("not struck", STATE, () -> x.anew(0, 3));
        due("struck", x.struck(0), 3);
        due("begun, not done", x.bars(0), 0);
        x.strike(0);
        x.cut(0);
        refused("in the film", STATE, () -> x.anew(0, 3));
        refused("in the film, no frame", INDEX, () -> x.anew(0, 4));
        x.cutOut(0);
        due("what is worn stays", x.ofJoint(0, 0, 1), 100);
        due("all", x.anew(0, 0), 4);
        due("what is worn stays", x.ofJoint(0, 0, 1), 100);
        due("where it stands stays", x.ofJoint(0, 0, 0), 100);
        due("light stays", x.light(), 999);
        due("keys stay", x.degree(0, 0, 3), 100);
        due("the animator stays", x.assign(0, 3), 0);
        refused("thrown away", INDEX, () -> x.pose(0, 0, 0));
    }

    private static void mend() {
        promise = "17";
        FrameClay x = oneShot(16, 1);
        for (int no : NO_NUMBERS) {
            refused("puppet " + no, INDEX, () -> x.mend(no, 0));
            refused("joint " + no, INDEX, () -> x.mend(0, no));
        }
        refused("joint 2", INDEX, () -> x.mend(0, 2));
        due("new", x.mend(0, 1), 0);
        for (int f = 0; f < 16; f += 2) {
            x.key(0, 0, f, 125);
            x.key(0, 1, f, 90);
            x.key(0, 0, f + 1, 0);
            x.key(0, 1, f + 1, 0);
        }
        strikes(x, 0, 7);
        due("875", x.ofJoint(0, 0, 1), 875);
        due("not broken", x.bars(0), 0);
        x.strike(0);
        due("1000 is broken", x.bars(0), 5);
        due("not the other one", x.mend(0, 1), 720);
        refused("broken", STATE, () -> x.strike(0));
        due("mended", x.mend(0, 0), 1000);
        due("whole", x.bars(0), 0);
        due("not worn", x.ofJoint(0, 0, 1), 0);
        due("again", x.mend(0, 0), 0);
        x.strike(0);
        due("it stands where it stood", x.ofJoint(0, 0, 1), 125);
        nearlyBroken();
    }

    private static void nearlyBroken() {
        FrameClay x = oneShot(9, 1);
        for (int f = 0; f < 6; f++) {
            x.key(0, 0, f, f % 2 == 0 ? 160 : 0);
        }
        x.key(0, 0, 6, 39);
        x.key(0, 0, 7, 40);
        strikes(x, 0, 7);
        due("999", x.ofJoint(0, 0, 1), 999);
        due("not broken", x.bars(0), 0);
        x.strike(0);
        due("1000", x.ofJoint(0, 0, 1), 1000);
        due("broken", x.bars(0), 5);
    }

    private static void lamp() {
        promise = "18";
        FrameClay x = oneShot(48, 1);
        due("new", x.lamp(), 1000);
        strikes(x, 0, 5);
        due("5 frames", x.lamp(), 999);
        due("new", x.light(), 1000);
        strikes(x, 0, 2);
        due("begins anew", x.light(), 1000);
        strikes(x, 0, 1);
        due("3 frames", x.lamp(), 999);
    }

    private static void cut() {
        promise = "19";
        FrameClay x = oneShot(3, 1);
        x.shot(0, 4, 1, NONE);
        x.assign(1, 0);
        for (int no : NO_NUMBERS) {
            refused("shot " + no, INDEX, () -> x.cut(no));
        }
        refused("not begun", STATE, () -> x.cut(0));
        strikes(x, 0, 2);
        refused("not done", STATE, () -> x.cut(0));
        strikes(x, 0, 1);
        strikes(x, 1, 4);
        due("first", x.cut(1), 4);
        due("second", x.cut(0), 7);
        refused("in the film", STATE, () -> x.cut(1));
        refused("in the film", STATE, () -> x.cut(0));
        due("order", x.film(0), 100);
        due("order", x.film(4), 0);
    }

    private static void cutOut() {
        promise = "20";
        FrameClay x = new FrameClay();
        x.puppet(1);
        for (int s = 0; s < 8; s++) {
            int shot = s;
            x.shot(0, s + 1, 1, NONE);
            x.assign(s, 0);
            strikes(x, s, s + 1);
            refused("not in the film", STATE, () -> x.cutOut(shot));
            x.cut(s);
        }
        for (int no : NO_NUMBERS) {
            refused("shot " + no, INDEX, () -> x.cutOut(no));
        }
        due("one between", x.cutOut(1), 34);
        refused("cut out", STATE, () -> x.cutOut(1));
        due("the next ones move", x.film(1), 200);
        due("the last one", x.cutOut(7), 26);
        due("behind the end", x.film(26), NONE);
        due("the first one", x.cutOut(0), 25);
        due("cut in again, at the end", x.cut(0), 26);
        due("at the end", x.film(25), 0);
        due("shot anew", x.anew(1, 0), 2);
    }

    private static void degree() {
        promise = "21";
        FrameClay x = oneShot(14, 1);
        for (int no : NO_NUMBERS) {
            refused("shot " + no, INDEX, () -> x.degree(no, 0, 0));
            refused("joint " + no, INDEX, () -> x.degree(0, no, 0));
            refused("frame " + no, INDEX, () -> x.degree(0, 0, no));
        }
        refused("joint 2", INDEX, () -> x.degree(0, 2, 0));
        refused("frame 14", INDEX, () -> x.degree(0, 0, 14));
        due("without a key", x.degree(0, 0, 5), 0);
        x.key(0, 0, 2, 10);
        due("ahead", x.degree(0, 0, 0), 10);
        due("behind", x.degree(0, 0, 13), 10);
        x.key(0, 0, 5, 0);
        due("down, toward 0", x.degree(0, 0, 3), 7);
        due("down, toward 0", x.degree(0, 0, 4), 4);
        x.key(0, 0, 8, 180);
        due("both as long: upward", x.degree(0, 0, 6), 60);
        x.key(0, 0, 10, 0);
        due("both as long: upward", x.degree(0, 0, 9), 270);
        x.key(0, 0, 13, 355);
        due("below 0, toward 0", x.degree(0, 0, 11), 359);
        due("below 0, toward 0", x.degree(0, 0, 12), 357);
        x.key(0, 1, 0, 359);
        x.key(0, 1, 4, 2);
        due("over 360", x.degree(0, 1, 1), 359);
        due("over 360", x.degree(0, 1, 2), 0);
        due("over 360", x.degree(0, 1, 3), 1);
        x.key(0, 1, 6, 181);
        due("179 up", x.degree(0, 1, 5), 91);
        x.key(0, 1, 8, 2);
        due("179 down", x.degree(0, 1, 7), 92);
        x.key(0, 1, 10, 183);
        due("181 up is 179 down", x.degree(0, 1, 9), 273);
        FrameClay held = oneShot(6, 2);
        held.key(0, 0, 0, 0);
        held.key(0, 0, 4, 40);
        due("not held", held.degree(0, 0, 2), 20);
        due("held", held.degree(0, 0, 3), 20);
        due("held", held.degree(0, 0, 1), 0);
        due("held", held.degree(0, 0, 5), 40);
    }

    private static void mouth() {
        promise = "22";
        FrameClay x = new FrameClay();
        x.puppet(1);
        speak(x, 0, 1, 9, 2, 9, 1, 3, 1);
        x.shot(0, 7, 1, 0);
        x.shot(0, 7, 2, 0);
        x.shot(0, 7, 2, NONE);
        for (int no : NO_NUMBERS) {
            refused("shot " + no, INDEX, () -> x.mouth(no, 0));
            refused("frame " + no, INDEX, () -> x.mouth(0, no));
        }
        refused("frame 7", INDEX, () -> x.mouth(0, 7));
        int[] ones = {0, 9, 9, 9, 3, NONE, NONE};
        int[] twos = {0, 0, 9, 9, 3, 3, NONE};
        for (int f = 0; f < 7; f++) {
            due("by ones " + f, x.mouth(0, f), ones[f]);
            due("by twos " + f, x.mouth(1, f), twos[f]);
            due("without a voice " + f, x.mouth(2, f), NONE);
        }
    }

    private static void place() {
        promise = "23";
        FrameClay x = oneShot(10, 2);
        for (int no : NO_NUMBERS) {
            refused("shot " + no, INDEX, () -> x.place(no, 0));
            refused("frame " + no, INDEX, () -> x.place(0, no));
        }
        refused("frame 10", INDEX, () -> x.place(0, 10));
        due("without a key", x.place(0, 9), 0);
        x.camera(0, 1, -10);
        due("ahead", x.place(0, 0), -10);
        due("behind", x.place(0, 9), -10);
        x.camera(0, 4, 1);
        x.camera(0, 7, -999);
        int[] due = {-10, -10, -7, -3, 1, -332, -665, -999, -999, -999};
        for (int f = 0; f < 10; f++) {
            due("frame " + f, x.place(0, f), due[f]);
        }
    }

    private static void wants() {
        promise = "24";
        FrameClay x = new FrameClay();
        x.puppet(1);
        speak(x, 5, 1, 5, 2, 0, 1, 5, 2, 7, 1, 0, 1, 9, 4);
        x.shot(0, 12, 1, 0);
        x.shot(0, 12, 2, 0);
        x.shot(0, 3, 1, 0);
        x.shot(0, 3, 1, NONE);
        for (int no : NO_NUMBERS) {
            refused("shot " + no, INDEX, () -> x.wants(no, 10));
        }
        refused("sound -1", ARGUMENT, () -> x.wants(0, -1));
        refused("sound 10", ARGUMENT, () -> x.wants(0, 10));
        due("5 by ones", x.wants(0, 5), 2);
        due("0 by ones", x.wants(0, 0), 2);
        due("7 by ones", x.wants(0, 7), 1);
        due("9 by ones", x.wants(0, 9), 1);
        due("1 by ones", x.wants(0, 1), 0);
        due("5 by twos", x.wants(1, 5), 1);
        due("0 by twos", x.wants(1, 0), 0);
        due("7 by twos", x.wants(1, 7), 1);
        due("0 of a short one", x.wants(2, 0), 0);
        due("5 of a short one", x.wants(2, 5), 1);
        due("without a voice", x.wants(3, 5), 0);
        speak(x, 5, 1, 0, 1, 5, 1);
        x.dub(3, 1);
        due("the frame 0 with them", x.wants(3, 5), 2);
        x.assign(2, 0);
        x.mouths(0, 5, 1);
        x.strike(2);
        due("from its beginning", x.wants(2, 5), 1);
    }

    private static void bars() {
        promise = "25";
        FrameClay x = new FrameClay();
        x.puppet(1);
        x.puppet(1);
        speak(x, 1, 2, 2, 9);
        x.shot(0, 3, 2, 0);
        x.shot(0, 2, 1, NONE);
        x.shot(1, 2, 1, NONE);
        for (int no : NO_NUMBERS) {
            refused("shot " + no, INDEX, () -> x.bars(no));
        }
        due("no animator", x.bars(0), 1);
        refused("no animator", STATE, () -> x.strike(0));
        x.assign(0, 0);
        x.assign(1, 1);
        x.assign(2, 0);
        due("no mouth", x.bars(0), 6);
        x.mouths(0, 1, 1);
        due("nothing", x.bars(0), 0);
        x.strike(0);
        due("held: no mouth matters", x.bars(0), 0);
        due("the puppet stands in another shot", x.bars(1), 4);
        due("the animator has another shot", x.bars(2), 3);
        refused("third", STATE, () -> x.strike(2));
        refused("fourth", STATE, () -> x.strike(1));
        x.assign(1, 0);
        due("both: the third", x.bars(1), 3);
        x.ill(0, true);
        due("the second", x.bars(1), 2);
        refused("ill", STATE, () -> x.strike(1));
        due("held: ill matters", x.bars(0), 2);
        x.ill(0, false);
        x.strike(0);
        due("no mouth", x.bars(0), 6);
        x.mouths(0, 2, 1);
        x.strike(0);
        due("done", x.bars(0), 7);
        x.ill(0, true);
        due("done, whatever else is", x.bars(0), 7);
        x.ill(0, false);
        due("another one that is done bars not", x.bars(1), 0);
        due("another one that is done bars not", x.bars(2), 0);
        x.anew(0, 0);
        due("nor one thrown away", x.bars(1), 0);
        barsOfBroken();
    }

    private static void barsOfBroken() {
        FrameClay x = new FrameClay();
        x.puppet(1);
        speak(x, 1, 24);
        speak(x, 2, 24);
        x.shot(0, 24, 2, 0);
        x.assign(0, 0);
        x.mouths(0, 1, 1);
        for (int f = 0; f < 24; f += 2) {
            x.key(0, 0, f, f % 4 == 0 ? 170 : 0);
        }
        strikes(x, 0, 11);
        due("broken at 1020, held", x.bars(0), 0);
        x.strike(0);
        due("broken", x.bars(0), 5);
        x.dub(0, 1);
        due("broken, ahead of no mouth", x.bars(0), 5);
        x.mend(0, 0);
        due("no mouth", x.bars(0), 6);
        x.shot(0, 1, 1, 0);
        due("no animator ahead of all", x.bars(1), 1);
    }

    private static void wears() {
        promise = "26";
        FrameClay x = oneShot(7, 2);
        for (int no : NO_NUMBERS) {
            refused("shot " + no, INDEX, () -> x.wears(no, 0));
            refused("joint " + no, INDEX, () -> x.wears(0, no));
        }
        refused("joint 2", INDEX, () -> x.wears(0, 2));
        due("without keys", x.wears(0, 0), 0);
        x.key(0, 0, 0, 350);
        x.key(0, 0, 4, 90);
        x.key(0, 0, 6, 80);
        due("all frames", x.wears(0, 0), 10 + 100 + 10);
        due("the other joint", x.wears(0, 1), 0);
        strikes(x, 0, 2);
        due("two are struck", x.wears(0, 0), 110);
        strikes(x, 0, 1);
        due("three are struck", x.wears(0, 0), 60);
        x.shot(0, 1, 1, NONE);
        due("from where it stands", x.wears(1, 0), 40);
        strikes(x, 0, 4);
        due("done", x.wears(0, 0), 0);
        due("as it was told", x.ofJoint(0, 0, 1), 120);
    }

    private static void struck() {
        promise = "27";
        FrameClay x = oneShot(3, 2);
        for (int no : NO_NUMBERS) {
            refused("shot " + no, INDEX, () -> x.struck(no));
        }
        for (int f = 0; f < 3; f++) {
            due("struck", x.struck(0), f);
            x.strike(0);
        }
        due("struck", x.struck(0), 3);
        x.anew(0, 1);
        due("struck", x.struck(0), 1);
    }

    private static void pose() {
        promise = "28";
        FrameClay x = oneShot(6, 2);
        x.key(0, 0, 0, 20);
        x.key(0, 1, 0, 30);
        refused("not struck", INDEX, () -> x.pose(0, 0, 0));
        strikes(x, 0, 3);
        for (int no : NO_NUMBERS) {
            refused("shot " + no, INDEX, () -> x.pose(no, 0, 0));
            refused("joint " + no, INDEX, () -> x.pose(0, no, 0));
            refused("frame " + no, INDEX, () -> x.pose(0, 0, no));
        }
        refused("joint 2", INDEX, () -> x.pose(0, 2, 0));
        refused("frame 3", INDEX, () -> x.pose(0, 0, 3));
        x.key(0, 0, 4, 60);
        due("sheet", x.degree(0, 0, 2), 40);
        due("as it was struck", x.pose(0, 0, 2), 20);
        due("the other joint", x.pose(0, 1, 1), 30);
        x.strike(0);
        due("held: as the one ahead was struck", x.pose(0, 0, 3), 20);
        x.strike(0);
        due("by the sheet of now", x.pose(0, 0, 4), 60);
    }

    private static void ofFrame() {
        promise = "29";
        FrameClay x = new FrameClay();
        x.puppet(1);
        speak(x, 8, 2, 7, 2);
        x.shot(0, 4, 1, 0);
        x.assign(0, 0);
        x.mouths(0, 8, 1);
        x.mouths(0, 7, 1);
        x.camera(0, 0, 6);
        x.camera(0, 2, -6);
        refused("not struck", INDEX, () -> x.ofFrame(0, 0, 4));
        strikes(x, 0, 2);
        x.bump(0, 9);
        strikes(x, 0, 1);
        for (int no : NO_NUMBERS) {
            refused("shot " + no, INDEX, () -> x.ofFrame(no, 0, 0));
            refused("frame " + no, INDEX, () -> x.ofFrame(0, no, 4));
        }
        refused("frame 3", INDEX, () -> x.ofFrame(0, 3, 0));
        refused("what -1", ARGUMENT, () -> x.ofFrame(0, 0, -1));
        refused("what 4", ARGUMENT, () -> x.ofFrame(0, 0, 4));
        int[] mouths = {8, 8, 7};
        int[] cameras = {6, 0, -6};
        int[] tables = {0, 0, 9};
        x.lamp();
        strikes(x, 0, 1);
        for (int f = 0; f < 3; f++) {
            due("mouth", x.ofFrame(0, f, 0), mouths[f]);
            due("camera", x.ofFrame(0, f, 1), cameras[f]);
            due("light", x.ofFrame(0, f, 2), 1000);
            due("table", x.ofFrame(0, f, 3), tables[f]);
        }
    }

    private static void faults() {
        promise = "30";
        FrameClay x = new FrameClay();
        x.puppet(2);
        speak(x, 1, 9);
        speak(x, 2, 9);
        x.shot(0, 6, 2, 0);
        x.assign(0, 0);
        x.mouths(0, 1, 1);
        x.mouths(0, 2, 1);
        refused("not struck", INDEX, () -> x.faults(0, 0));
        strikes(x, 0, 1);
        for (int no : NO_NUMBERS) {
            refused("shot " + no, INDEX, () -> x.faults(no, 0));
            refused("frame " + no, INDEX, () -> x.faults(0, no));
        }
        refused("frame 1", INDEX, () -> x.faults(0, 1));
        due("none", x.faults(0, 0), 0);
        x.dub(0, 1);
        due("mouth", x.faults(0, 0), 2);
        x.dub(0, 0);
        x.camera(0, 5, 4);
        due("camera", x.faults(0, 0), 16);
        x.key(0, 1, 2, 3);
        due("degrees and camera", x.faults(0, 0), 17);
        x.dub(0, 1);
        due("and mouth", x.faults(0, 0), 19);
        x.bump(0, 1);
        due("a bump behind it", x.faults(0, 0), 19);
        strikes(x, 0, 2);
        due("a held one", x.faults(0, 1), 7);
        due("the next one", x.faults(0, 2), 4);
        x.bump(0, -1);
        strikes(x, 0, 1);
        due("the sum is 0", x.faults(0, 3), 0);
        x.bump(0, -1);
        strikes(x, 0, 1);
        due("below 0", x.faults(0, 4), 4);
        faultsOfLight(x);
    }

    private static void faultsOfLight(FrameClay x) {
        x.level(0);
        x.shot(0, 48, 1, NONE);
        x.shot(0, 48, 1, NONE);
        x.ill(0, true);
        x.assign(0, 1);
        x.strike(0);
        x.assign(1, 2);
        x.assign(2, 3);
        x.lamp();
        strikes(x, 1, 48);
        strikes(x, 2, 14);
        due("62 frames", x.light(), 980);
        x.lamp();
        strikes(x, 2, 1);
        due("20 more", x.faults(2, 14), 0);
        x.lamp();
        strikes(x, 2, 1);
        x.anew(1, 1);
        x.ill(2, true);
        x.assign(1, 4);
        x.ill(3, true);
        x.anew(2, 0);
        strikes(x, 1, 47);
        x.ill(3, false);
        strikes(x, 2, 16);
        due("64 frames", x.light(), 979);
        x.lamp();
        strikes(x, 2, 1);
        due("light", x.ofFrame(2, 16, 2) - x.ofFrame(2, 15, 2), 21);
        due("21 more", x.faults(2, 16), 8);
        strikes(x, 2, 1);
        due("the next one", x.faults(2, 17), 0);
        x.key(2, 0, 18, 1);
        due("degrees of the first joint", x.faults(2, 17), 1);
        due("degrees and light", x.faults(2, 16), 9);
        due("the first one of the other", x.faults(1, 0), 0);
        lightOfFrameStruckLater(x);
    }

    /** The light may be less than that of the frame ahead too. */
    private static void lightOfFrameStruckLater(FrameClay x) {
        x.lamp();
        x.anew(1, 0);
        strikes(x, 2, 30);
        strikes(x, 1, 1);
        due("30 frames later", x.faults(1, 0), 0);
        x.lamp();
        x.anew(1, 0);
        strikes(x, 1, 48);
        x.anew(1, 1);
        strikes(x, 1, 47);
        due("47 frames later", x.faults(1, 1), 0);
        x.anew(1, 1);
        strikes(x, 1, 1);
        due("95 frames later", x.faults(1, 1), 8);
    }

    private static void ofJoint() {
        promise = "31";
        FrameClay x = oneShot(2, 1);
        for (int no : NO_NUMBERS) {
            refused("puppet " + no, INDEX, () -> x.ofJoint(no, 0, 2));
            refused("joint " + no, INDEX, () -> x.ofJoint(0, no, 2));
        }
        refused("joint 2", INDEX, () -> x.ofJoint(0, 2, 0));
        refused("what -1", ARGUMENT, () -> x.ofJoint(0, 0, -1));
        refused("what 2", ARGUMENT, () -> x.ofJoint(0, 0, 2));
        x.key(0, 1, 0, 190);
        due("sheets move no joint", x.ofJoint(0, 1, 0), 0);
        x.strike(0);
        due("stands", x.ofJoint(0, 1, 0), 190);
        due("worn", x.ofJoint(0, 1, 1), 170);
        due("the other one stands", x.ofJoint(0, 0, 0), 0);
        due("the other one is not worn", x.ofJoint(0, 0, 1), 0);
    }

    private static void left() {
        promise = "32";
        FrameClay x = new FrameClay();
        x.puppet(1);
        for (int no : NO_NUMBERS) {
            refused("puppet " + no, INDEX, () -> x.left(no, 10));
        }
        refused("sound -1", ARGUMENT, () -> x.left(0, -1));
        refused("sound 10", ARGUMENT, () -> x.left(0, 10));
        x.mouths(0, 9, 3);
        due("given", x.left(0, 9), 3);
        due("none", x.left(0, 8), 0);
    }

    private static void light() {
        promise = "33";
        FrameClay x = oneShot(48, 1);
        for (int f = 0; f < 48; f++) {
            due("light", x.light(), 1000 - f / 3);
            x.strike(0);
            due("of the frame", x.ofFrame(0, f, 2), 1000 - f / 3);
        }
        x.anew(0, 0);
        due("frames that are thrown away", x.light(), 984);
        x.shot(0, 2, 1, NONE);
        x.assign(1, 1);
        strikes(x, 1, 2);
        strikes(x, 0, 1);
        due("all shots together", x.light(), 983);
        // at most 512 calls, and so at most 512 frames: the light of 500 is never reached in time
    }

    private static void film() {
        promise = "34";
        FrameClay x = oneShot(2, 1);
        x.shot(0, 3, 1, NONE);
        x.assign(1, 0);
        strikes(x, 0, 2);
        strikes(x, 1, 3);
        due("empty", x.film(0), NONE);
        x.cut(1);
        x.cut(0);
        int[] due = {100, 101, 102, 0, 1, NONE};
        for (int at = 0; at < 6; at++) {
            due("film(" + at + ")", x.film(at), due[at]);
        }
        due("film(MAX)", x.film(Integer.MAX_VALUE), NONE);
        refused("film(-1)", INDEX, () -> x.film(-1));
        refused("film(MIN)", INDEX, () -> x.film(Integer.MIN_VALUE));
    }
}
