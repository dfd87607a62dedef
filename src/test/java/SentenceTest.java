import java.io.IOException;

/**
 * Promises 1 to 34, line by line: what each line names as a boundary is called on both sides of it.
 * How calls are written stands in src/test/helper/Sentences.java.
 */
public final class SentenceTest {
    private static final String INDEX = "Throws `IndexOutOfBoundsException` if ";
    private static final String ARGUMENT = "Throws `IllegalArgumentException` if ";
    private static final String STATE = "Throws `IllegalStateException` if ";
    private static final String SOUND = "`sound`: 0 to 9";
    private static final String OR_NONE = "`voice`: a voice, or NONE";

    /** A puppet of 2 joints, and a shot of 5 frames, none held, with animator 0. */
    private static final String SCENE = "puppet 2; shot 0 5 1 NONE; assign 0 0\n";
    /** The same, but the frames 1 and 3 are held. */
    private static final String HELD = "puppet 2; shot 0 5 2 NONE; assign 0 0\n";
    /** A voice of the sound 3 for 2 frames, then of the sound 4 for 2. */
    private static final String VOICE = "sound 3 2; sound 4 2; voice\n";

    private static Sentences the;

    public static void main(String[] args) throws IOException {
        the = new Sentences();
        newObject();
        puppet();
        mouths();
        sound();
        voice();
        shot();
        assign();
        ill();
        dub();
        key();
        camera();
        play();
        strike();
        bump();
        level();
        anew();
        mend();
        lamp();
        cut();
        cutOut();
        degree();
        mouth();
        place();
        wants();
        bars();
        wears();
        struck();
        pose();
        ofFrame();
        faults();
        ofJoint();
        left();
        light();
        film();
        the.needEachPromise();
        the.end();
    }

    private static void newObject() {
        the.holds(1, "No puppets, voices and shots", """
            ofJoint {-1 0} 0 0 !I
            left 0 0 !I; mouths 0 0 1 !I; mend 0 0 !I; shot 0 1 1 NONE !I
            struck {-1 0} !I
            bars 0 !I; strike 0 !I; level 0 !I; cut 0 !I; cutOut 0 !I; assign 0 0 !I; dub 0 NONE !I
            voice !S; light = 1000; film 0 = NONE; play 0 = 0; ill {0 1 2 3 4} false = 0
            puppet 1 = 0; shot 0 1 1 0 !I; shot 0 1 1 NONE = 0; dub 0 0 !I; sound 0 1 = 1; voice = 0""");
    }

    private static void puppet() {
        the.holds(2, "Adds a puppet", "ofJoint 0 0 0 !I; puppet 3 = 0; ofJoint 0 0 0 = 0; ofJoint 1 0 0 !I");
        the.holds(2, "`joints`: 1 to 6", """
            puppet 0 !A; puppet 1 = 0; puppet 6 = 1; puppet 7 !A
            ofJoint 0 0 1 = 0; ofJoint 0 1 1 !I; ofJoint 1 5 1 = 0; ofJoint 1 6 1 !I""");
        the.holds(2, "Returns its number", "puppet 2 = 0; puppet 2 = 1; puppet 2 = 2; puppet 2 = 3; puppet 2 = 4");
        the.holds(2, ARGUMENT + "joints is out of range", "puppet {0 -1 MIN 7 8 MAX} !A; puppet {1 6} ",
            "puppet 1 x5 = 4; puppet {0 7} !A");
        the.holds(2, STATE + "there are 5", "puppet 1 x4 = 3; puppet 2 = 4; mouths 4 0 3; mouths 0 0 2; puppet {1 2 6} !S; left 4 0 = 3; left 0 0 = 2; ofJoint 4 1 0 = 0; ofJoint 5 0 0 !I");
    }

    private static void mouths() {
        the.holds(3, "Gives a puppet mouths for a sound, besides those that it has", """
            puppet 1 x2; mouths 0 4 2 = 2; mouths 0 4 3 = 5; left 0 4 = 5
            left 0 3 = 0; left 0 5 = 0; left 1 4 = 0; mouths 0 5 1 = 1; mouths 1 4 1 = 1; left 0 4 = 5""");
        the.holds(3, SOUND, "puppet 1; mouths 0 -1 1 !A; mouths 0 0 1 = 1; mouths 0 9 1 = 1; mouths 0 10 1 !A");
        the.holds(3, "`many`: 1 to 9", "puppet 1; mouths 0 0 0 !A; mouths 0 0 1 = 1; mouths 0 1 9 = 9; mouths 0 2 10 !A");
        the.holds(3, "Returns how many it has then", "puppet 1; mouths 0 0 1 = 1; mouths 0 0 8 = 9",
            SCENE + VOICE + "dub 0 0; mouths 0 3 2 = 2; strike 0; left 0 3 = 1; mouths 0 3 4 = 5");
        the.holds(3, INDEX + "there is no such puppet", """
            mouths {-1 0 1} 0 1 !I
            puppet 1 x2; mouths {-1 2 MIN MAX} 0 1 !I; mouths 2 {-1 10} 1 !I; mouths 2 0 {0 10} !I; mouths {0 1} 0 9 = 9
            mouths 2 0 9 !I""");
        the.holds(3, ARGUMENT + "sound or many is out of range", """
            puppet 1; mouths 0 {-1 10 MIN MAX} 1 !A; mouths 0 0 {0 -1 10 MIN MAX} !A; mouths 0 10 0 !A
            mouths 0 0 9 = 9; mouths 0 0 {0 10 MAX} !A""");
        the.holds(3, STATE + "it would have more than 9", """
            puppet 1; mouths 0 7 9 = 9; mouths 0 7 1 !S; left 0 7 = 9
            mouths 0 6 5 = 5; mouths 0 6 {5 9} !S; mouths 0 6 4 = 9; mouths 0 6 1 !S; mouths 0 5 1 = 1""");
    }

    private static void sound() {
        the.holds(4, "Adds a sound to the voice that is spoken, behind the others", """
            puppet 1; sound 3 2; sound 4 1; sound 3 1; voice = 0; shot 0 6 1 0
            mouth 0 0 = 3; mouth 0 1 = 3; mouth 0 2 = 4; mouth 0 3 = 3; mouth 0 4 = NONE; mouth 0 5 = NONE""");
        the.holds(4, SOUND, """
            sound -1 1 !A; sound 0 1 = 1; sound 9 1 = 2; sound 10 1 !A
            puppet 1; voice; shot 0 3 1 0; mouth 0 0 = 0; mouth 0 1 = 9; mouth 0 2 = NONE""");
        the.holds(4, "`frames`: 1 to 24", """
            sound 1 0 !A; sound 1 1 = 1; sound 2 24 = 2; sound 2 25 !A
            puppet 1; voice; shot 0 48 1 0; mouth 0 0 = 1; mouth 0 1 = 2; mouth 0 24 = 2; mouth 0 25 = NONE""");
        the.holds(4, "Returns how many it has then", "sound 1 1 = 1; sound 1 1 = 2; voice = 0; sound 1 1 = 1");
        the.holds(4, ARGUMENT + "sound or frames is out of range", """
            sound {-1 10 MIN MAX} 1 !A; sound 0 {0 -1 25 MIN MAX} !A; sound 10 0 !A; sound 0 1 = 1
            sound 0 1 x11 = 12; sound {-1 10} 1 !A; sound 0 {0 25} !A""");
        the.holds(4, STATE + "it has 12", "sound 0 1 x11 = 11; sound 0 24 = 12; sound {0 9} 1 !S; voice = 0; sound 0 1 = 1");
    }

    private static void voice() {
        the.holds(5, "Keeps the voice that is spoken; the next one has no sounds then", """
            puppet 1; sound 5 1; sound 6 1; voice = 0; voice !S; sound 7 1 = 1; voice = 1
            shot 0 3 1 0; shot 0 3 1 1
            mouth 0 0 = 5; mouth 0 1 = 6; mouth 0 2 = NONE; mouth 1 0 = 7; mouth 1 1 = NONE""");
        the.holds(5, "Returns its number", """
            sound 0 1; voice = 0; sound 0 1; voice = 1; sound 0 1; voice = 2
            sound 0 1; voice = 3; sound 0 1; voice = 4; sound 0 1; voice = 5""");
        the.holds(5, STATE + "it has no sound, or there are 6", """
            voice !S; sound 0 1; voice = 0; voice !S
            sound 0 1; voice; sound 0 1; voice; sound 0 1; voice; sound 0 1; voice = 4; voice !S; sound 0 1; voice = 5
            voice !S; sound 0 1 = 1; voice !S; sound 0 1 = 2; voice !S""");
    }

    private static void shot() {
        the.holds(6, "Adds a shot, without an animator", """
            puppet 1; struck 0 !I; shot 0 2 1 NONE = 0; struck 0 = 0; struck 1 !I
            bars 0 = 1; strike 0 !S; assign 0 0 = NONE; bars 0 = 0""");
        the.holds(6, "`frames`: 1 to 48", """
            puppet 1; shot 0 0 1 NONE !A; shot 0 1 1 NONE = 0; shot 0 48 1 NONE = 1; shot 0 49 1 NONE !A
            place 0 0 = 0; place 0 1 !I; place 1 47 = 0; place 1 48 !I""");
        the.holds(6, "`step`: 1 or 2", """
            puppet 1; shot 0 4 0 NONE !A; shot 0 4 1 NONE = 0; shot 0 4 2 NONE = 1; shot 0 4 3 NONE !A
            key 0 0 1 5 = 0; key 1 0 1 5 !S; key 1 0 2 5 = 0; key 1 0 3 5 !S""");
        the.holds(6, OR_NONE, VOICE + """
            puppet 1; shot 0 2 1 -2 !I; shot 0 2 1 NONE = 0; shot 0 2 1 0 = 1; shot 0 2 1 1 !I
            mouth 0 0 = NONE; mouth 1 0 = 3; dub 0 0 = NONE; dub 1 0 = 0""");
        the.holds(6, "Returns its number", """
            puppet 1; shot 0 1 1 NONE = 0; shot 0 1 1 NONE = 1; shot 0 1 1 NONE = 2; shot 0 1 1 NONE = 3
            shot 0 1 1 NONE = 4; shot 0 1 1 NONE = 5; shot 0 1 1 NONE = 6; shot 0 1 1 NONE = 7""");
        the.holds(6, INDEX + "there is no such puppet, or voice but NONE", VOICE + """
            shot {-1 0} 1 1 0 !I
            puppet 1; puppet 2; shot {-1 2 MIN MAX} 1 1 0 !I; shot 0 1 1 {-2 1 MIN MAX} !I
            shot 2 {0 49} 1 0 !I; shot 2 1 {0 3} 0 !I; shot 0 {0 49} 1 1 !I; shot 0 1 {0 3} -2 !I
            shot 1 1 1 0 = 0; degree 0 1 0 = 0; degree 0 2 0 !I; shot 0 1 1 0 x7 = 7
            shot 2 1 1 0 !I; shot 0 1 1 1 !I""");
        the.holds(6, ARGUMENT + "frames or step is out of range", """
            puppet 1; shot 0 {0 -1 49 MIN MAX} 1 NONE !A; shot 0 1 {0 -1 3 MIN MAX} NONE !A; shot 0 0 0 NONE !A
            shot 0 1 1 NONE x8 = 7; shot 0 {0 49} 1 NONE !A; shot 0 1 {0 3} NONE !A""");
        the.holds(6, STATE + "there are 8", "puppet 1; shot 0 1 1 NONE x7 = 6; shot 0 48 2 NONE = 7; shot 0 1 1 NONE !S");
    }

    private static void assign() {
        the.holds(7, "Gives a shot to an animator", """
            puppet 1; shot 0 2 1 NONE; shot 0 2 1 NONE; bars 0 = 1; assign 0 2; bars 0 = 0; bars 1 = 1
            ill 2 true; bars 0 = 2; assign 0 3; bars 0 = 0""");
        the.holds(7, "`animator`: 0 to 4", SCENE + "assign 0 -1 !I; assign 0 0 = 0; assign 0 4 = 0; assign 0 5 !I; assign 0 1 = 4");
        the.holds(7, "Returns who had it; NONE without", """
            puppet 1; shot 0 1 1 NONE; assign 0 4 = NONE; assign 0 0 = 4; assign 0 0 = 0; assign 0 3 = 0""");
        the.holds(7, INDEX + "there is no such shot or animator", """
            assign {-1 0} 0 !I
            puppet 1; shot 0 2 1 NONE; assign {-1 1 MIN MAX} 0 !I; assign 0 {-1 5 MIN MAX} !I; assign 1 5 !I
            assign 0 4 = NONE; strike 0; assign 0 {-1 5} !I; strike 0; assign 0 {-1 5} !I; assign 1 0 !I""");
        the.holds(7, STATE + "the shot is done, or has begun, and who has it is not ill",
            // not begun, whether ill or not; begun, and well; begun, and ill; it is done; thrown away
            SCENE + "assign 0 1 = 0; ill 1 true; assign 0 2 = 1; ill 2 true; assign 0 2 = 2; assign 0 3 = 2",
            SCENE + "strike 0; assign 0 {0 1 4} !S; ill 1 true; assign 0 1 !S; strike 0 x3; assign 0 1 !S; strike 0",
            SCENE + "strike 0; ill 0 true; assign 0 1 = 0; assign 0 0 !S; ill 1 true; assign 0 1 = 1; assign 0 4 = 1",
            SCENE + "strike 0 x4; ill 0 true; assign 0 1 = 0; strike 0; assign 0 0 !S; ill 1 true; assign 0 {1 2} !S",
            SCENE + "strike 0 x5; anew 0 4; assign 0 1 !S; anew 0 1; assign 0 1 !S; anew 0 0; assign 0 1 = 0; assign 0 2 = 1");
    }

    private static void ill() {
        the.holds(8, "Lets an animator be ill, or not", SCENE + """
            bars 0 = 0; ill 1 true; bars 0 = 0; ill 0 true; bars 0 = 2; strike 0 !S; ill 1 false; bars 0 = 2
            ill 0 false; bars 0 = 0; strike 0 = 0""");
        the.holds(8, "`animator`: 0 to 4", "ill -1 true !I; ill 0 true = 0; ill 4 true = 0; ill 5 true !I; ill {0 4} true = 1");
        the.holds(8, "Returns whether they were", """
            ill {0 1 2 3 4} true = 0; ill {0 1 2 3 4} true = 1; ill 2 false = 1; ill 2 false = 0; ill {0 1 3 4} false = 1""");
        the.holds(8, INDEX + "there is no such animator", "ill {-1 5 MIN MAX} true !I; ill {-1 5 MIN MAX} false !I; ill 4 true",
            SCENE + "ill {-1 5} true !I; bars 0 = 0; ill 0 true; ill {-1 5} false !I; bars 0 = 2");
    }

    private static void dub() {
        the.holds(9, "Gives a shot another voice", SCENE + VOICE + """
            sound 5 1; voice; shot 0 5 1 NONE
            mouth 0 0 = NONE; dub 0 0; mouth 0 0 = 3; mouth 1 0 = NONE; dub 0 1; mouth 0 0 = 5; mouth 0 1 = NONE
            dub 0 NONE; mouth 0 0 = NONE""");
        the.holds(9, OR_NONE, SCENE + VOICE + "dub 0 -2 !I; dub 0 NONE = NONE; dub 0 0 = NONE; dub 0 1 !I; dub 0 NONE = 0");
        the.holds(9, "Returns the one before, or NONE", SCENE + VOICE + """
            sound 5 1; voice; dub 0 1 = NONE; dub 0 0 = 1; dub 0 0 = 0; dub 0 NONE = 0; dub 0 NONE = NONE
            shot 0 2 1 1; dub 1 0 = 1""");
        the.holds(9, INDEX + "there is no such shot, or voice but NONE", "dub {-1 0} NONE !I", SCENE + VOICE + """
            dub {-1 1 MIN MAX} 0 !I; dub {-1 1} NONE !I; dub 0 {-2 1 MIN MAX} !I; dub 1 1 !I; dub 0 0 = NONE
            dub 0 {-2 1} !I; strike 0 !S; mouths 0 3 1; strike 0; dub 0 1 !I; dub 0 NONE = 0; strike 0 x4; dub 0 0 = NONE""");
    }

    private static void key() {
        the.holds(10, "Tells a key of a joint, in place of one that is there", SCENE + """
            key 0 0 2 10; degree 0 0 2 = 10; degree 0 1 2 = 0; key 0 0 2 20; degree 0 0 2 = 20; degree 0 0 4 = 20
            key 0 1 0 0; key 0 1 4 40; degree 0 1 2 = 20; key 0 1 4 80; degree 0 1 2 = 40; degree 0 0 2 = 20""");
        the.holds(10, "`joint`: a joint of the puppet of the shot", """
            puppet 1; puppet 6; shot 0 2 1 NONE; shot 1 2 1 NONE
            key 0 -1 0 1 !I; key 0 0 0 1 = 0; key 0 1 0 1 !I; key 1 -1 0 1 !I; key 1 0 0 1 = 0; key 1 5 0 1 = 0; key 1 6 0 1 !I""");
        the.holds(10, "`degree`: 0 to 359", SCENE + "key 0 0 0 -1 !A; key 0 0 0 0 = 0; key 0 0 0 359 = 0; key 0 0 0 360 !A; key 0 0 0 1 = 359");
        the.holds(10, "Returns the degree that the sheet told for that frame before", SCENE + """
            key 0 0 4 100 = 0; key 0 0 0 50 = 100; key 0 0 2 7 = 75; key 0 0 2 8 = 7; key 0 0 1 9 = 29; key 0 0 3 9 = 54""");
        the.holds(10, INDEX + "there is no such shot, joint or frame", "key {-1 0} 0 0 0 !I", HELD + """
            key {-1 1 MIN MAX} 0 0 0 !I; key 0 {-1 2 MIN MAX} 0 0 !I; key 0 0 {-1 5 MIN MAX} 0 !I; key 0 0 4 0 = 0; key 0 1 0 0 = 0
            key 1 0 0 360 !I; key 0 2 0 360 !I; key 0 0 5 360 !I; key 0 2 1 0 !I
            strike 0; key 1 0 0 0 !I; key 0 2 0 0 !I; key 0 -1 1 0 !I; key 0 0 -1 0 !I""");
        the.holds(10, ARGUMENT + "degree is out of range", HELD + """
            key 0 0 0 {-1 360 MIN MAX} !A; key 0 0 1 {-1 360} !A; strike 0 x3; key 0 0 2 {-1 360} !A; key 0 0 3 360 !A; key 0 0 4 {-1 360} !A
            key 0 0 4 359 = 0""");
        the.holds(10, STATE + "the frame is struck, or held",
            SCENE + "key 0 0 0 1; strike 0 x2; key 0 0 {0 1} 2 !S; key 0 1 1 2 !S; key 0 0 2 2 = 1; strike 0; key 0 0 2 2 !S; key 0 0 3 3 = 2",
            SCENE + "key 0 0 0 1; strike 0 x3; anew 0 1; key 0 0 0 2 !S; key 0 0 1 2 = 1; strike 0 x4; key 0 0 {0 1 2 3 4} 3 !S",
            HELD + "key 0 0 {1 3} 2 !S; key 0 1 1 2 !S; key 0 0 {0 2 4} 2; strike 0; key 0 0 0 3 !S; key 0 0 1 3 !S; strike 0; key 0 0 1 3 !S; key 0 0 2 3 = 2",
            "puppet 1; shot 0 48 2 NONE; key 0 0 46 1 = 0; key 0 0 {1 45 47} 1 !S; shot 0 48 1 NONE; key 1 0 47 1 = 0; key 1 0 1 5 = 1");
    }

    private static void camera() {
        the.holds(11, "Tells a key of the camera, in place of one that is there", SCENE + """
            shot 0 5 1 NONE; camera 0 2 10; place 0 2 = 10; camera 0 2 -20; place 0 2 = -20; place 0 4 = -20; place 1 2 = 0
            camera 0 0 0; place 0 1 = -10; camera 0 2 20; place 0 1 = 10""");
        the.holds(11, "`place`: -999 to 999", SCENE + """
            camera 0 0 -1000 !A; camera 0 0 -999 = 0; camera 0 0 999 = -999; camera 0 0 1000 !A; camera 0 0 0 = 999""");
        the.holds(11, "Returns the place that the sheet told for that frame before", SCENE + """
            camera 0 4 -10 = 0; camera 0 0 7 = -10; camera 0 2 3 = -1; camera 0 2 4 = 3; camera 0 1 0 = 6; camera 0 3 0 = -3""");
        the.holds(11, INDEX + "there is no such shot or frame", "camera {-1 0} 0 0 !I", SCENE + """
            camera {-1 1 MIN MAX} 0 0 !I; camera 0 {-1 5 MIN MAX} 0 !I; camera 1 0 1000 !I; camera 0 5 -1000 !I
            strike 0; camera 1 0 0 !I; camera 0 {-1 5} 0 !I; camera 0 4 0 = 0""");
        the.holds(11, ARGUMENT + "place is out of range", SCENE + """
            camera 0 0 {-1000 1000 MIN MAX} !A; strike 0; camera 0 0 {-1000 1000} !A; camera 0 1 {-1000 1000} !A; camera 0 1 {-999 999}""");
        the.holds(11, STATE + "the frame is struck",
            SCENE + "camera 0 0 1; strike 0 x2; camera 0 {0 1} 2 !S; camera 0 2 2 = 1; strike 0; camera 0 2 2 !S; camera 0 3 3 = 2",
            SCENE + "strike 0 x5; camera 0 {0 4} 2 !S; anew 0 3; camera 0 2 2 !S; camera 0 3 2 = 0",
            HELD + "camera 0 {1 3} 2; strike 0; camera 0 0 3 !S; camera 0 1 3 = 2; strike 0; camera 0 1 3 !S");
    }

    private static void play() {
        the.holds(12, "Sets the play of the motor", SCENE + """
            camera 0 1 10; camera 0 0 0; camera 0 2 5; camera 0 3 9; camera 0 4 8; play 3
            strike 0 x3; ofFrame 0 2 1 = 8; play 4; strike 0; ofFrame 0 3 1 = 5; ofFrame 0 2 1 = 8; play 0; strike 0; ofFrame 0 4 1 = 8""");
        the.holds(12, "Returns the one before", "play 7 = 0; play 8 = 7; play 8 = 8; play 0 = 8; play 0 = 0");
        the.holds(12, "`units`: 0 to 20", "play -1 !A; play 0 = 0; play 20 = 0; play 21 !A; play 1 = 20");
        the.holds(12, ARGUMENT + "units is out of range", "play {-1 21 MIN MAX} !A; play 20 = 0; play {-1 21} !A; play 0 = 20");
    }

    private static void strike() {
        the.holds(13, "Strikes the next frame of a shot", SCENE + """
            shot 0 5 1 NONE; struck 0 = 0; strike 0; struck 0 = 1; struck 1 = 0; pose 0 0 0 = 0; pose 0 0 1 !I; strike 0; pose 0 0 1 = 0""");
        the.holds(13, "Returns its number", SCENE + """
            strike 0 = 0; strike 0 = 1; strike 0 = 2; anew 0 1; strike 0 = 1; strike 0 = 2; strike 0 = 3; strike 0 = 4""",
            "puppet 1; shot 0 48 1 NONE; assign 0 0; strike 0 x48 = 47; strike 0 !S; shot 0 1 2 NONE; assign 1 0; strike 1 = 0; strike 1 !S");
        the.holds(13, INDEX + "there is no such shot", "strike {-1 0} !I", SCENE + "strike {-1 1 MIN MAX} !I; strike 0 x5 = 4; strike {-1 1} !I");
        the.holds(13, STATE + "it is done, or something stands in its way, as told",
            SCENE + "strike 0 x5 = 4; strike 0 !S; anew 0 4; strike 0 = 4; strike 0 !S; ill 0 true; strike 0 !S",
            // no animator, ill, the animator's other shot, the puppet's other shot
            "puppet 1 x2; shot 0 2 1 NONE; strike 0 !S; assign 0 0; ill 0 true; strike 0 !S; ill 0 false; strike 0 = 0",
            "puppet 1 x2; shot 0 2 1 NONE; shot 1 2 1 NONE; assign {0 1} 0; strike 0; strike 1 !S; strike 0; strike 1 = 0",
            "puppet 1 x2; shot 0 2 1 NONE; shot 0 2 1 NONE; assign 0 0; assign 1 1; strike 0; strike 1 !S; strike 0; strike 1 = 0",
            // broken, and no mouth
            broken(0) + "bars 0 = 5; strike 0 !S; mend 0 0; strike 0 = 8",
            SCENE + VOICE + "dub 0 0; strike 0 !S; mouths 0 4 1; strike 0 !S; mouths 0 3 1; strike 0 = 0; left 0 3 = 0");
    }

    /** A shot of 10 frames, its joint worn 1000 by the first 8 of them; as many degrees less as told. */
    private static String broken(int less) {
        return "puppet 1; shot 0 10 1 NONE; assign 0 0; key 0 0 {0 2 4 6} 125; key 0 0 {1 3 5} 0; key 0 0 7 " + less
            + "; key 0 0 8 " + less + "; strike 0 x8 = 7; ofJoint 0 0 1 = " + (1000 - less) + "\n";
    }

    private static void bump() {
        the.holds(14, "Bumps the table of a shot", SCENE + """
            shot 0 2 1 NONE; strike 0; bump 0 5; strike 0; ofFrame 0 0 3 = 0; ofFrame 0 1 3 = 5
            strike 0 x3; assign 1 0; strike 1; ofFrame 1 0 3 = 0; bump 1 0 = 0; bump 0 0 = 5""");
        the.holds(14, "`units`: -99 to 99", SCENE + "strike 0; bump 0 -100 !A; bump 0 -99 = -99; bump 0 99 = 0; bump 0 100 !A; bump 0 0 = 0");
        the.holds(14, "Returns the sum then", SCENE + "strike 0; bump 0 99 = 99; bump 0 99 = 198; bump 0 -1 = 197; bump 0 0 = 197; level 0; bump 0 -3 = -3");
        the.holds(14, INDEX + "there is no such shot", "bump {-1 0} 1 !I",
            SCENE + "bump {-1 1 MIN MAX} 1 !I; bump 1 100 !I; strike 0; bump {-1 1} 1 !I; bump 0 1 = 1");
        the.holds(14, ARGUMENT + "units is out of range",
            SCENE + "bump 0 {-100 100 MIN MAX} !A; bump 0 99 !S; strike 0; bump 0 {-100 100 MIN MAX} !A; bump 0 {-99 99}");
        the.holds(14, STATE + "it has not begun", SCENE + """
            bump 0 {0 1 -99 99} !S; strike 0; bump 0 1 = 1; anew 0 0; bump 0 1 !S; strike 0; bump 0 1 = 2
            strike 0 x4; bump 0 1 = 3; anew 0 1; bump 0 1 = 4; anew 0 0; bump 0 1 !S""");
    }

    private static void level() {
        the.holds(15, "Levels the table of a shot", SCENE + """
            puppet 1; shot 1 2 1 NONE; assign 1 1; strike 0; bump 0 5; strike 0 x4; strike 1; bump 1 6; level 0; anew 0 3; ill 1 true; assign 1 2
            strike 1; strike 0; ofFrame 0 2 3 = 5; ofFrame 0 3 3 = 0; ofFrame 1 1 3 = 6""");
        the.holds(15, "Returns the sum before", SCENE + "level 0 = 0; strike 0; bump 0 5; bump 0 -7; level 0 = -2; level 0 = 0; bump 0 99; anew 0 0; level 0 = 99");
        the.holds(15, INDEX + "there is no such shot", "level {-1 0} !I", SCENE + "strike 0; bump 0 4; level {-1 1 MIN MAX} !I; level 0 = 4");
    }

    private static void anew() {
        the.holds(16, "Throws frames away, to be shot anew", SCENE + """
            shot 0 5 1 NONE; key 0 0 0 10; strike 0 x5; assign 1 1; strike 1 x2; anew 0 2; struck 0 = 2; struck 1 = 2
            pose 0 0 1 = 10; pose 0 0 2 !I; faults 0 2 !I; ofFrame 0 2 0 !I; bars 0 = 4""");
        the.holds(16, "`frame`: the first one of them", SCENE + "strike 0 x5; anew 0 4 = 1; struck 0 = 4; anew 0 1 = 3; struck 0 = 1; anew 0 0 = 1; struck 0 = 0");
        the.holds(16, "Returns how many are thrown away", SCENE + "strike 0 x5; anew 0 0 = 5; strike 0; anew 0 0 = 1; strike 0 x4; anew 0 3 = 1; anew 0 1 = 2");
        the.holds(16, INDEX + "there is no such shot or frame", "anew {-1 0} 0 !I",
            SCENE + "anew {-1 1 MIN MAX} 0 !I; anew 0 {-1 5 MIN MAX} !I; anew 0 0 !S; strike 0 x5; anew {-1 1} 0 !I; anew 0 {-1 5} !I; cut 0; anew 0 {-1 5} !I; anew 0 4 !S");
        the.holds(16, STATE + "the frame is not struck, or the shot is in the film", SCENE + """
            anew 0 {0 4} !S; strike 0 x2; anew 0 {2 3 4} !S; anew 0 1 = 1; anew 0 1 !S; anew 0 0 = 1; anew 0 0 !S
            strike 0 x5; cut 0; anew 0 {0 4} !S; cutOut 0; anew 0 4 = 1; anew 0 4 !S""");
    }

    private static void mend() {
        the.holds(17, "Mends a joint", SCENE + """
            puppet 1; key 0 0 0 100; key 0 1 0 90; strike 0; mend 0 0; ofJoint 0 0 1 = 0; ofJoint 0 0 0 = 100; ofJoint 0 1 1 = 90; mend 0 1 = 90""");
        the.holds(17, "Returns how much it was worn", SCENE + "mend 0 0 = 0; key 0 0 0 180; strike 0; mend 0 0 = 180; mend 0 0 = 0", broken(0) + "mend 0 0 = 1000; bars 0 = 0");
        the.holds(17, INDEX + "there is no such puppet, or joint of it", "mend {-1 0} 0 !I",
            "puppet 1; puppet 6; mend {-1 2 MIN MAX} 0 !I; mend 0 {-1 1 MIN MAX} !I; mend 1 {-1 6} !I; mend 2 6 !I; mend 0 0 = 0; mend 1 5 = 0",
            SCENE + "key 0 1 0 50; strike 0; mend 1 0 !I; mend 0 2 !I; mend 0 1 = 50");
    }

    private static void lamp() {
        the.holds(18, "Puts a new lamp in. Returns the light of the one before", """
            lamp = 1000; puppet 1; shot 0 9 1 NONE; assign 0 0; strike 0 x2; lamp = 1000; strike 0 x2; lamp = 1000
            strike 0 x3; light = 999; lamp = 999; light = 1000; lamp = 1000; strike 0 x2; light = 1000""");
    }

    private static void cut() {
        the.holds(19, "Cuts a shot into the film, at its end", """
            puppet 1; shot 0 1 1 NONE; shot 0 2 1 NONE; assign {0 1} 0; strike 0; strike 1 x2
            cut 1; film 0 = 100; film 1 = 101; film 2 = NONE; cut 0; film 0 = 100; film 2 = 0; film 3 = NONE""");
        the.holds(19, "Returns how many frames the film has then", """
            puppet 1; shot 0 1 1 NONE x8; assign {0 1 2 3 4 5 6 7} 0; strike {0 1 2 3 4 5 6 7}
            cut 7 = 1; cut 0 = 2; cut 1 = 3; cut 2 = 4; cut 3 = 5; cut 4 = 6; cut 5 = 7; cut 6 = 8; film 7 = 600; film 8 = NONE
            cut {0 6 7} !S; cutOut 6 = 7; film 6 = 500; film 7 = NONE; cut 6 = 8; cutOut 7 = 7; film 0 = 0; film 6 = 600; cut 7 = 8""",
            "puppet 1; shot 0 48 2 NONE; assign 0 0; strike 0 x48; cut 0 = 48; film 47 = 47; film 48 = NONE");
        the.holds(19, INDEX + "there is no such shot", "cut {-1 0} !I", SCENE + "cut {-1 1 MIN MAX} !I; strike 0 x5; cut {-1 1} !I; cut 0 = 5; cut {-1 1} !I");
        the.holds(19, STATE + "it is not done, or in the film", SCENE + """
            cut 0 !S; strike 0; cut 0 !S; strike 0 x3; cut 0 !S; strike 0; cut 0 = 5; cut 0 !S; cutOut 0; cut 0 = 5; cut 0 !S
            cutOut 0; anew 0 4; cut 0 !S; strike 0; cut 0 = 5""");
    }

    private static void cutOut() {
        String film = "puppet 1; shot 0 1 1 NONE; shot 0 2 1 NONE; shot 0 3 1 NONE; assign {0 1 2} 0; strike 0; strike 1 x2; strike 2 x3; cut {0 1 2}\n";
        the.holds(20, "Cuts a shot out of the film",
            film + "cutOut 0; film 0 = 100; film 1 = 101; film 2 = 200; film 4 = 202; film 5 = NONE; cut 0 = 6; film 5 = 0",
            film + "cutOut 1; film 0 = 0; film 1 = 200; film 4 = NONE", film + "cutOut 2; film 0 = 0; film 2 = 101; film 3 = NONE");
        the.holds(20, "Returns how many frames the film has then", film + "cutOut 1 = 4; cutOut 0 = 3; cutOut 2 = 0; film 0 = NONE");
        the.holds(20, INDEX + "there is no such shot", "cutOut {-1 0} !I", film + "cutOut {-1 3 MIN MAX} !I; cutOut 2 = 3");
        the.holds(20, STATE + "it is not in the film", film + "cutOut 1 = 4; cutOut 1 !S; cut 1 = 6; cutOut 1 = 4",
            SCENE + "cutOut 0 !S; strike 0 x5; cutOut 0 !S; cut 0; cutOut 0 = 0; cutOut 0 !S");
    }

    private static void degree() {
        the.holds(21, "Returns the degree of a joint by the sheet", SCENE + """
            degree 0 0 0 = 0; key 0 1 2 359; degree 0 1 0 = 359; degree 0 1 4 = 359; degree 0 0 2 = 0; strike 0; degree 0 1 0 = 359; ofJoint 0 1 0 = 359
            key 0 1 4 1; degree 0 1 3 = 0""");
        the.holds(21, INDEX + "there is no such shot, joint or frame", "degree {-1 0} 0 0 !I",
            SCENE + "degree {-1 1 MIN MAX} 0 0 !I; degree 0 {-1 2 MIN MAX} 0 !I; degree 0 0 {-1 5 MIN MAX} !I; degree 1 2 5 !I; degree 0 1 4 = 0");
    }

    private static void mouth() {
        the.holds(22, "Returns the mouth of a frame by the sheet", SCENE + VOICE + """
            mouths 0 3 1; dub 0 0; mouth 0 1 = 3; mouth 0 2 = 4; strike 0; dub 0 NONE; mouth 0 0 = NONE; ofFrame 0 0 0 = 3""");
        the.holds(22, "Returns the sound, or NONE", SCENE + VOICE + "sound 0 1; voice; mouth 0 0 = NONE; dub 0 0; mouth 0 3 = 4; mouth 0 4 = NONE; dub 0 1; mouth 0 0 = 0; mouth 0 1 = NONE");
        the.holds(22, INDEX + "there is no such shot or frame", "mouth {-1 0} 0 !I",
            SCENE + "mouth {-1 1 MIN MAX} 0 !I; mouth 0 {-1 5 MIN MAX} !I; mouth 0 {0 4} = NONE");
    }

    private static void place() {
        the.holds(23, "Returns where the camera is told to be by the sheet", SCENE + """
            place 0 0 = 0; camera 0 2 9; place 0 0 = 9; camera 0 0 4; place 0 1 = 6; strike 0 x2; camera 0 2 6; place 0 1 = 5; ofFrame 0 1 1 = 6""");
        the.holds(23, INDEX + "there is no such shot or frame", "place {-1 0} 0 !I",
            SCENE + "place {-1 1 MIN MAX} 0 !I; place 0 {-1 5 MIN MAX} !I; place 0 {0 4} = 0");
    }

    private static void wants() {
        the.holds(24, "Returns how many mouths of a sound a shot wants by its sheet, if it is struck from its beginning", SCENE + VOICE + """
            mouths 0 3 9; mouths 0 4 9; dub 0 0; wants 0 3 = 1; wants 0 4 = 1; wants 0 5 = 0; strike 0 x3; wants 0 3 = 1; wants 0 4 = 1
            sound 4 1; sound 3 1; sound 4 1; sound 3 2; voice; dub 0 1; wants 0 3 = 2; wants 0 4 = 2; ofFrame 0 0 0 = 3""");
        the.holds(24, SOUND, "puppet 1; sound 0 1; sound 9 1; voice; shot 0 2 1 0; wants 0 -1 !A; wants 0 0 = 1; wants 0 9 = 1; wants 0 10 !A");
        the.holds(24, INDEX + "there is no such shot", "wants {-1 0} 0 !I", SCENE + "wants {-1 1 MIN MAX} 0 !I; wants 1 {-1 10} !I; wants 0 0 = 0");
        the.holds(24, ARGUMENT + "sound is out of range", SCENE + "wants 0 {-1 10 MIN MAX} !A; wants 0 {0 9} = 0");
    }

    private static void bars() {
        the.holds(25, "0 nothing, 1 to 6 as told, by their order, 7 that it is done, whatever else is",
            "puppet 1; shot 0 2 1 NONE; bars 0 = 1; assign 0 0; bars 0 = 0; ill 0 true; bars 0 = 2",
            "puppet 1 x2; shot 0 2 1 NONE; shot 1 2 1 NONE; shot 0 2 1 NONE; assign {0 1} 0; assign 2 1; strike 0; bars 1 = 3; bars 2 = 4; bars 0 = 0",
            broken(0) + "bars 0 = 5; mend 0 0; bars 0 = 0", SCENE + VOICE + "dub 0 0; bars 0 = 6; mouths 0 3 1; bars 0 = 0",
            // done: 7 even if ill, if the animator and the puppet are busy, if a joint is broken, if no mouth is left
            SCENE + VOICE + "shot 0 2 1 NONE; strike 0 x4; bars 0 = 0; strike 0; bars 0 = 7; dub 0 0; bars 0 = 7; assign 1 0; strike 1; bars 0 = 7; ill 0 true; bars 0 = 7",
            broken(0) + "anew 0 1; shot 0 1 1 NONE; assign 1 1; bars 1 = 4; mend 0 0; strike 0 x7; bars 0 = 0; strike 0; bars 0 = 0; strike 0; bars 0 = 7",
            "puppet 1; shot 0 8 1 NONE; assign 0 0; key 0 0 {0 2 4 6} 125; key 0 0 {1 3 5 7} 0; strike 0 x8; ofJoint 0 0 1 = 1000; bars 0 = 7; shot 0 1 1 NONE; assign 1 0; bars 1 = 5");
        the.holds(25, INDEX + "there is no such shot", "bars {-1 0} !I", SCENE + "bars {-1 1 MIN MAX} !I; bars 0 = 0");
    }

    private static void wears() {
        the.holds(26, "by all frames of a shot that are not struck yet, from where it stands", SCENE + """
            key 0 0 0 180; key 0 0 1 0; key 0 0 2 181; key 0 0 3 181; key 0 0 4 0; wears 0 0 = 718; wears 0 1 = 0
            strike 0; wears 0 0 = 538; strike 0; wears 0 0 = 358; strike 0; wears 0 0 = 179; strike 0; wears 0 0 = 179; strike 0; wears 0 0 = 0; ofJoint 0 0 1 = 718
            shot 0 1 1 NONE; key 1 0 0 90; wears 1 0 = 90; anew 0 4; wears 0 0 = 0; anew 0 2; wears 0 0 = 358""",
            HELD + "key 0 0 0 10; key 0 0 2 20; key 0 0 4 10; wears 0 0 = 30; strike 0; wears 0 0 = 20; strike 0; wears 0 0 = 20; strike 0 x2; wears 0 0 = 10");
        the.holds(26, INDEX + "there is no such shot or joint", "wears {-1 0} 0 !I", SCENE + "wears {-1 1 MIN MAX} 0 !I; wears 0 {-1 2 MIN MAX} !I; wears 0 {0 1} = 0");
    }

    private static void struck() {
        the.holds(27, "Returns how many frames of a shot are struck", SCENE + "struck 0 = 0; strike 0; struck 0 = 1; strike 0 x4; struck 0 = 5; anew 0 3; struck 0 = 3; anew 0 0; struck 0 = 0");
        the.holds(27, "@throws IndexOutOfBoundsException if there is no such shot", "struck {-1 0} !I", SCENE + "struck {-1 1 MIN MAX} !I; struck 0 = 0");
    }

    private static void pose() {
        the.holds(28, "Returns the degree of a joint in a frame that is struck", SCENE + """
            key 0 0 0 10; key 0 1 0 359; strike 0 x2; key 0 0 2 20; pose 0 0 0 = 10; pose 0 0 1 = 10; pose 0 1 1 = 359; degree 0 0 1 = 15; strike 0; pose 0 0 2 = 20""");
        the.holds(28, INDEX + "there is no such shot, joint or struck frame", "pose {-1 0} 0 0 !I", SCENE + """
            pose 0 0 0 !I; strike 0 x2; pose {-1 1 MIN MAX} 0 0 !I; pose 0 {-1 2 MIN MAX} 0 !I; pose 0 0 {-1 2 4 5 MIN MAX} !I; pose 0 1 {0 1} = 0
            anew 0 1; pose 0 0 1 !I; pose 0 0 0 = 0; strike 0 x4; pose 0 0 4 = 0; pose 0 0 5 !I""");
    }

    private static void ofFrame() {
        String scene = SCENE + VOICE + "dub 0 0; mouths 0 3 1; camera 0 0 -8; strike 0 x2; bump 0 6\n";
        the.holds(29, "Tells of a frame that is struck: 0 its mouth, 1 its camera, 2 its light, 3 its table",
            scene + "mouths 0 4 1; strike 0 x2; ofFrame 0 1 0 = 3; ofFrame 0 2 0 = 4; ofFrame 0 2 1 = -8; ofFrame 0 2 2 = 1000; ofFrame 0 3 2 = 999; ofFrame 0 1 3 = 0; ofFrame 0 2 3 = 6");
        the.holds(29, "`what`: 0 to 3", scene + "ofFrame 0 1 -1 !A; ofFrame 0 1 0 = 3; ofFrame 0 1 3 = 0; ofFrame 0 1 4 !A");
        the.holds(29, INDEX + "there is no such shot or struck frame", "ofFrame {-1 0} 0 0 !I", SCENE + "ofFrame 0 0 {0 4} !I", scene + """
            ofFrame {-1 1 MIN MAX} 0 0 !I; ofFrame 0 {-1 2 4 5 MIN MAX} 0 !I; ofFrame 1 0 4 !I; ofFrame 0 2 -1 !I; ofFrame 0 {0 1} 0 = 3
            anew 0 1; ofFrame 0 1 0 !I; ofFrame 0 0 0 = 3""");
        the.holds(29, ARGUMENT + "what is out of range", scene + "ofFrame 0 0 {-1 4 MIN MAX} !A; ofFrame 0 0 {0 1 2 3}");
    }

    private static void faults() {
        the.holds(30, "Returns the faults of a frame that is struck", SCENE + "strike 0 x2; faults 0 {0 1} = 0; key 0 1 2 4; faults 0 {0 1} = 1; strike 0; faults 0 2 = 0");
        the.holds(30, INDEX + "there is no such shot or struck frame", "faults {-1 0} 0 !I", SCENE + """
            faults 0 0 !I; strike 0 x2; faults {-1 1 MIN MAX} 0 !I; faults 0 {-1 2 4 5 MIN MAX} !I; faults 0 {0 1} = 0; anew 0 1; faults 0 1 !I; faults 0 0 = 0
            strike 0 x4; faults 0 4 = 0; faults 0 5 !I""");
    }

    private static void ofJoint() {
        the.holds(31, "Tells of a joint: 0 at what degree it stands, 1 how much it is worn", SCENE + "key 0 1 0 350; strike 0; ofJoint 0 1 0 = 350; ofJoint 0 1 1 = 10; ofJoint 0 0 0 = 0; ofJoint 0 0 1 = 0");
        the.holds(31, "`what`: 0 or 1", SCENE + "ofJoint 0 0 -1 !A; ofJoint 0 0 0 = 0; ofJoint 0 0 1 = 0; ofJoint 0 0 2 !A");
        the.holds(31, INDEX + "there is no such puppet, or joint of it", "ofJoint {-1 0} 0 0 !I",
            "puppet 1; puppet 6; ofJoint {-1 2 MIN MAX} 0 0 !I; ofJoint 0 {-1 1 MIN MAX} 0 !I; ofJoint 1 {-1 6} 0 !I; ofJoint 2 0 2 !I; ofJoint 0 1 -1 !I; ofJoint 0 0 0 = 0; ofJoint 1 5 0 = 0");
        the.holds(31, ARGUMENT + "what is out of range", "puppet 2; ofJoint 0 1 {-1 2 MIN MAX} !A; ofJoint 0 1 {0 1} = 0");
    }

    private static void left() {
        the.holds(32, "Returns how many mouths of a sound a puppet has left", SCENE + VOICE + """
            dub 0 0; left 0 3 = 0; mouths 0 3 9; left 0 3 = 9; left 0 2 = 0; left 0 4 = 0; strike 0; left 0 3 = 8; strike 0; left 0 3 = 8; mouths 0 4 1; strike 0; left 0 4 = 0""");
        the.holds(32, SOUND, "puppet 1; mouths 0 0 1; mouths 0 9 2; left 0 -1 !A; left 0 0 = 1; left 0 9 = 2; left 0 10 !A");
        the.holds(32, INDEX + "there is no such puppet", "left {-1 0} 0 !I", "puppet 1; puppet 1; left {-1 2 MIN MAX} 0 !I; left 2 {-1 10} !I; left {0 1} 0 = 0");
        the.holds(32, ARGUMENT + "sound is out of range", "puppet 1; left 0 {-1 10 MIN MAX} !A; left 0 {0 9} = 0");
    }

    private static void light() {
        the.holds(33, "Returns the light of the lamp", "light = 1000; puppet 1; shot 0 9 2 NONE; assign 0 0; strike 0 x2; light = 1000; strike 0; light = 999; strike 0 x2; light = 999; strike 0; light = 998; lamp; light = 1000");
    }

    private static void film() {
        String film = "puppet 1; shot 0 1 1 NONE; shot 0 3 2 NONE; assign {0 1} 0; strike 0; strike 1 x3; film 0 = NONE; cut 1; cut 0\n";
        the.holds(34, "Returns a frame of the film", film + "film 0 = 100; film 2 = 102; film 3 = 0; film 4 = NONE; cutOut 1; film 0 = 0; film 1 = NONE");
        the.holds(34, "`at`: from 0", film + "film -1 !I; film 0 = 100");
        the.holds(34, "Returns 100 times the shot, and its frame, together; NONE if the film has not so many",
            film + "film 1 = 101; film 3 = 0; film {4 5 MAX} = NONE",
            "puppet 1; shot 0 1 1 NONE x7; shot 0 48 1 NONE; assign 7 4; strike 7 x48; cut 7 = 48; film 47 = 747; film 48 = NONE");
        the.holds(34, INDEX + "at is below 0", "film {-1 MIN} !I; film 0 = NONE; film MAX = NONE", film + "film {-1 MIN} !I");
    }
}
