import java.io.IOException;

/**
 * "Terms", "Striking" and "The film" of the document, sentence by sentence: what each names as a
 * boundary is called on both sides of it. How calls are written stands in src/test/helper/Sentences.java.
 */
public final class TermsTest {
    /** A puppet of 2 joints, and a shot of 6 frames, none held, with animator 0. */
    private static final String SCENE = "puppet 2; shot 0 6 1 NONE; assign 0 0\n";
    /** The same, but the frames 1, 3 and 5 are held. */
    private static final String HELD = "puppet 2; shot 0 6 2 NONE; assign 0 0\n";
    /** Two puppets, and shots of 3 frames: 0 and 1 of puppet 0, 2 of puppet 1, without animators. */
    private static final String THREE = "puppet 1 x2; shot 0 3 1 NONE; shot 0 3 1 NONE; shot 1 3 1 NONE\n";
    /** Shot 0 of 9 frames of puppet 0; its joint is worn 1000 by the first 8; animator 0. */
    private static final String BROKEN = "puppet 1 x2; shot 0 9 1 NONE; assign 0 0; key 0 0 {0 2 4 6} 125; key 0 0 {1 3 5 7 8} 0; strike 0 x8\n";

    private static Sentences the;

    public static void main(String[] args) throws IOException {
        the = new Sentences();
        calls512();
        puppetsAndVoices();
        shots();
        degrees();
        mouths();
        camera();
        motor();
        lamp();
        whatStandsInTheWay();
        theFirstOfThese();
        heldFrames();
        wear();
        usedMouths();
        whatIsKept();
        bumps();
        shootingAnew();
        faults();
        film();
        exceptions();
        the.needEachTerm();
        the.end();
    }

    private static void calls512() {
        StringBuilder calls = new StringBuilder("puppet 1; shot 0 48 1 NONE; assign 0 0\n");
        for (int i = 0; i < 10; i++) {
            calls.append("strike 0 x48 = 47; anew 0 0 = 48\n");
        }
        the.term("An object is used for at most 512 calls after it has been made; what later calls answer is free", calls + "strike 0 x18 = 17; light = 834");
    }

    private static void puppetsAndVoices() {
        the.term("Puppets are numbered from 0, at most 5, each with 1 to 6 joints, from 0",
            "puppet 0 !A; puppet 1 = 0; puppet 6 = 1; puppet 7 !A; puppet 3 = 2; puppet 3 = 3; puppet 3 = 4; puppet 3 !S; ofJoint -1 0 0 !I; ofJoint 5 0 0 !I",
            "puppet 1; puppet 6; ofJoint 0 -1 0 !I; ofJoint 0 0 0 = 0; ofJoint 0 1 0 !I; ofJoint 1 5 0 = 0; ofJoint 1 6 0 !I");
        the.term("a joint stands at a degree, 0 to 359, 0 at first, and is worn, 0 at first",
            SCENE + "ofJoint 0 {0 1} 0 = 0; ofJoint 0 {0 1} 1 = 0; key 0 0 0 359; key 0 0 1 0; strike 0; ofJoint 0 0 0 = 359; strike 0; ofJoint 0 0 0 = 0; ofJoint 0 0 1 = 2; key 0 0 5 360 !A; key 0 0 5 -1 !A");
        the.term("Voices are numbered from 0, at most 6: sounds, 0 to 9, one behind the other, each for so many frames, 1 to 24, at most 12 sounds",
            "sound -1 1 !A; sound 10 1 !A; sound 0 0 !A; sound 0 25 !A; voice !S; sound 0 24; sound 9 1; sound 9 1; voice = 0; puppet 1; shot 0 48 1 0; mouth 0 {0 23} = 0; mouth 0 {24 25} = 9; mouth 0 26 = NONE",
            "sound 0 1 x11; sound 1 1 = 12; sound 1 1 !S; voice = 0; puppet 1; shot 0 48 1 0; mouth 0 10 = 0; mouth 0 11 = 1; mouth 0 12 = NONE",
            "sound 0 1; voice; sound 0 1; voice; sound 0 1; voice; sound 0 1; voice; sound 0 1; voice = 4; sound 0 1; voice = 5; sound 0 1; voice !S; puppet 1; shot 0 1 1 6 !I; shot 0 1 1 5 = 0");
        the.term("A puppet has for each sound some mouths, 0 to 9 of them, 0 at first",
            "puppet 1 x2; left 0 {0 1 2 3 4 5 6 7 8 9} = 0; mouths 0 0 9 = 9; mouths 0 0 1 !S; mouths 0 9 8 = 8; mouths 0 9 2 !S; mouths 0 9 1 = 9; left 0 {1 8} = 0; left 1 0 = 0");
    }

    private static void shots() {
        the.term("Shots are numbered from 0, at most 8: of a puppet, with a length, 1 to 48 frames, from 0, and the step, 1 or 2",
            "puppet 1; shot 1 1 1 NONE !I; shot 0 0 1 NONE !A; shot 0 49 1 NONE !A; shot 0 1 0 NONE !A; shot 0 1 3 NONE !A; shot 0 1 1 NONE = 0; shot 0 48 2 NONE = 1; shot 0 1 1 NONE x5 = 6; shot 0 1 1 NONE = 7; shot 0 1 1 NONE !S; struck 7 = 0; struck 8 !I; struck -1 !I",
            "puppet 1; shot 0 48 2 NONE; mouth 0 -1 !I; mouth 0 {0 47} = NONE; mouth 0 48 !I; shot 0 1 2 NONE; assign 1 0; strike 1 = 0; bars 1 = 7");
        the.term("with 2 the frames 1, 3, 5 .. are held, each as the one ahead of it",
            HELD + "key 0 0 0 10; key 0 0 2 20; key 0 0 4 30; key 0 0 {1 3 5} 40 !S; degree 0 0 1 = 10; degree 0 0 3 = 20; degree 0 0 5 = 30; strike 0 x6; pose 0 0 1 = 10; pose 0 0 3 = 20; pose 0 0 5 = 30",
            SCENE + "key 0 0 0 10; key 0 0 2 20; key 0 0 4 30; degree 0 0 1 = 15; key 0 0 {1 3 5} 40; degree 0 0 1 = 40");
        the.term("A shot may have a voice, which begins with its frame 0, and can be another one later, and an animator, 0 to 4",
            SCENE + "sound 7 1; voice; sound 8 1; voice; mouth 0 0 = NONE; dub 0 0; mouth 0 0 = 7; mouth 0 1 = NONE; mouths 0 7 1; strike 0; dub 0 1; mouth 0 0 = 8; mouth 0 1 = NONE",
            "puppet 1; shot 0 2 1 NONE; bars 0 = 1; assign 0 -1 !I; assign 0 5 !I; bars 0 = 1; assign 0 0; bars 0 = 0; assign 0 4 = 0; bars 0 = 0");
        the.term("It has begun, if a frame of it is struck now, not if all were thrown away, and is done, if all are",
            SCENE + "bump 0 1 !S; assign 0 1 = 0; strike 0; bump 0 1 = 1; assign 0 0 !S; strike 0 x4; cut 0 !S; bars 0 = 0; strike 0; bars 0 = 7; bump 0 1 = 2; cut 0 = 6; cutOut 0",
            SCENE + "strike 0 x6; bars 0 = 7; anew 0 5; bars 0 = 0; cut 0 !S; anew 0 1; bump 0 1 = 1; assign 0 1 !S; anew 0 0; bump 0 1 !S; assign 0 1 = 0",
            "puppet 1; shot 0 1 1 NONE; assign 0 0; bump 0 1 !S; strike 0; bump 0 1 = 1; bars 0 = 7; assign 0 1 !S");
    }

    private static void degrees() {
        the.term("A sheet has keys: for a joint and a frame a degree",
            SCENE + "shot 0 6 1 NONE; key 0 1 3 7; degree 0 1 3 = 7; degree 0 0 3 = 0; degree 1 1 3 = 0");
        the.term("The degree of a joint at a frame is that of its key there",
            SCENE + "key 0 0 0 359; key 0 0 1 0; key 0 0 2 180; key 0 0 5 1; degree 0 0 0 = 359; degree 0 0 1 = 0; degree 0 0 2 = 180; degree 0 0 5 = 1");
        String between = "between two keys that of the first one and what lies between both the shorter way round, upward if both are as long, times the frames gone since, divided by the frames between both, rounded toward 0";
        the.term(between,
            // the ways of 179, 180 and 181 degrees upward, and downward
            SCENE + "key 0 0 0 0; key 0 0 2 179; degree 0 0 1 = 89; key 0 0 2 180; degree 0 0 1 = 90; key 0 0 2 181; degree 0 0 1 = 271",
            SCENE + "key 0 0 0 300; key 0 0 2 119; degree 0 0 1 = 29; key 0 0 2 120; degree 0 0 1 = 30; key 0 0 2 121; degree 0 0 1 = 211",
            SCENE + "key 0 0 0 180; key 0 0 2 1; degree 0 0 1 = 91; key 0 0 2 0; degree 0 0 1 = 270; key 0 0 2 359; degree 0 0 1 = 269",
            // rounded toward 0, and not down; each frame of its own
            SCENE + "key 0 0 1 0; key 0 0 4 10; degree 0 0 2 = 3; degree 0 0 3 = 6; key 0 1 1 100; key 0 1 4 90; degree 0 1 2 = 97; degree 0 1 3 = 94",
            SCENE + "key 0 0 0 10; key 0 0 5 11; degree 0 0 {1 2 3 4} = 10; key 0 0 5 9; degree 0 0 {1 2 3 4} = 10; degree 0 0 5 = 9",
            SCENE + "key 0 0 0 5; key 0 0 1 6; degree 0 0 0 = 5; degree 0 0 1 = 6; key 0 0 3 6; degree 0 0 2 = 6",
            // a key between both ends what was between them
            SCENE + "key 0 0 0 0; key 0 0 4 40; degree 0 0 1 = 10; degree 0 0 3 = 30; key 0 0 2 0; degree 0 0 1 = 0; degree 0 0 3 = 20");
        the.term("ahead of the first key its degree, behind the last one that",
            SCENE + "key 0 0 2 50; degree 0 0 {0 1 2 3 5} = 50; key 0 0 3 60; degree 0 0 {0 1 2} = 50; degree 0 0 {3 4 5} = 60; key 0 0 1 70; degree 0 0 0 = 70");
        the.term("without any key 0", SCENE + "degree 0 0 {0 5} = 0; key 0 1 0 9; degree 0 0 {0 5} = 0");
        the.term("all by 360, at least 0",
            SCENE + "key 0 0 0 350; key 0 0 4 30; degree 0 0 1 = 0; degree 0 0 2 = 10; degree 0 0 3 = 20; key 0 1 0 358; key 0 1 2 0; degree 0 1 1 = 359",
            SCENE + "key 0 0 0 10; key 0 0 4 350; degree 0 0 1 = 5; degree 0 0 2 = 0; degree 0 0 3 = 355; key 0 1 0 1; key 0 1 2 357; degree 0 1 1 = 359");
        the.term("A held frame has the degrees of the one ahead of it",
            HELD + "key 0 0 0 0; key 0 0 4 40; degree 0 0 1 = 0; degree 0 0 2 = 20; degree 0 0 3 = 20; degree 0 0 5 = 40; key 0 1 2 9; degree 0 1 {0 1 2 3 5} = 9");
    }

    private static void mouths() {
        String voice = "sound 0 1; sound 9 2; sound 0 1; voice; puppet 1\n";
        the.term("The mouth of a frame is the sound of the voice there, of a held one that of the one ahead of it",
            voice + "shot 0 5 1 0; mouth 0 0 = 0; mouth 0 1 = 9; mouth 0 2 = 9; mouth 0 3 = 0",
            voice + "shot 0 5 2 0; mouth 0 0 = 0; mouth 0 1 = 0; mouth 0 2 = 9; mouth 0 3 = 9");
        the.term("NONE without a voice, or behind its end",
            voice + "shot 0 6 1 0; mouth 0 3 = 0; mouth 0 {4 5} = NONE; dub 0 NONE; mouth 0 {0 3} = NONE",
            "sound 4 3; voice; puppet 1; shot 0 6 2 0; mouth 0 {0 1 2 3} = 4; mouth 0 {4 5} = NONE");
        the.term("The mouths that a shot wants of a sound are the times at which its mouth changes to that, the frame 0 with them, if it has one",
            voice + "shot 0 5 1 0; wants 0 0 = 2; wants 0 9 = 1; wants 0 1 = 0; dub 0 NONE; wants 0 0 = 0",
            voice + "shot 0 5 2 0; wants 0 0 = 1; wants 0 9 = 1; shot 0 4 1 0; wants 1 0 = 2; shot 0 3 1 0; wants 2 0 = 1; shot 0 1 1 0; wants 3 0 = 1; wants 3 9 = 0",
            // the same sound twice, one behind the other, is no change
            "sound 5 1; sound 5 1; sound 6 1; sound 5 1; voice; puppet 1; shot 0 9 1 0; wants 0 5 = 2; wants 0 6 = 1");
    }

    private static void camera() {
        the.term("The camera of a shot has keys likewise, for a frame a place, -999 to 999: between two keys it is at the place of the first one and the difference of both, times the frames gone since, divided by the frames between both, rounded toward 0",
            SCENE + "camera 0 0 -1000 !A; camera 0 0 1000 !A; camera 0 0 -999 = 0; camera 0 5 999 = -999; place 0 0 = -999; place 0 1 = -600; place 0 4 = 599; place 0 5 = 999",
            SCENE + "camera 0 0 0; camera 0 3 10; place 0 1 = 3; place 0 2 = 6; camera 0 3 -10; place 0 1 = -3; place 0 2 = -6; camera 0 2 1; place 0 1 = 0",
            SCENE + "camera 0 1 1; camera 0 4 -1; place 0 2 = 1; place 0 3 = 0; camera 0 1 -1; camera 0 4 1; place 0 2 = -1; place 0 3 = 0",
            SCENE + "camera 0 0 300; camera 0 2 -300; place 0 1 = 0; camera 0 2 0; place 0 1 = 150");
        the.term("ahead of the first key, and behind the last one, at the places of these",
            SCENE + "camera 0 2 50; place 0 {0 1 2 3 5} = 50; camera 0 3 -60; place 0 {0 1 2} = 50; place 0 {3 4 5} = -60");
        the.term("without any at 0", SCENE + "place 0 {0 5} = 0; shot 0 2 1 NONE; camera 1 0 5; place 0 {0 5} = 0");
        the.term("at held frames as at others",
            HELD + "camera 0 0 0; camera 0 2 20; place 0 1 = 10; camera 0 1 5; place 0 1 = 5; camera 0 5 50; place 0 3 = 30; strike 0 x2; ofFrame 0 1 1 = 5",
            HELD + "play 2; camera 0 0 0; camera 0 1 9; camera 0 2 5; camera 0 3 6; strike 0 x4; ofFrame 0 1 1 = 9; ofFrame 0 2 1 = 7; ofFrame 0 3 1 = 4");
    }

    /** A shot whose camera is told these places, all of its frames struck, and the last camera. */
    private static String motor(int play, int last, int... places) {
        StringBuilder script = new StringBuilder("puppet 1; shot 0 " + places.length + " 1 NONE; assign 0 0; play " + play + "\n");
        for (int frame = 0; frame < places.length; frame++) {
            script.append("camera 0 ").append(frame).append(' ').append(places[frame]).append('\n');
        }
        return script + "strike 0 x" + places.length + "; ofFrame 0 " + (places.length - 1) + " 1 = " + last + "\n";
    }

    private static void motor() {
        the.term("The motor has a play, 0 to 20, 0 at first", "play -1 !A; play 21 !A; play 20 = 0; play 21 !A; play 0 = 20",
            motor(0, 5, 0, 10, 5), motor(20, 25, 0, 10, 5), motor(1, 6, 0, 10, 5));
        the.term("It turns, as it is told to be at a place below that at which the frame struck ahead of it was told to be as it was struck, behind a way up, or above it, behind a way down",
            motor(5, 14, 0, 10, 9), motor(5, 10, 0, 10, 10), motor(5, 11, 0, 10, 11),
            motor(5, -4, 10, 0, 1), motor(5, 0, 10, 0, 0), motor(5, -1, 10, 0, -1),
            // the first way is no turn, whether from frame 0 or behind places that stay
            motor(5, 3, 3), motor(5, 4, 3, 4), motor(5, 2, 3, 2), motor(5, 4, 3, 3, 4), motor(5, 2, 3, 3, 2),
            // told 0, 10 and 5 as they were struck, though the sheet tells 0, 2 and 5 then
            SCENE + "play 5; camera 0 0 0; camera 0 3 30; strike 0 x2; camera 0 2 5; place 0 1 = 2; strike 0; ofFrame 0 2 1 = 10",
            // 11 is above where it was told to be, 9, and below where it was then, 14
            motor(5, 6, 0, 10, 9, 11), motor(5, 4, 10, 0, 1, -1));
        the.term("within the shot, by the frames of it that are struck now",
            motor(5, 14, 0, 10, 9) + "shot 0 2 1 NONE; assign 1 0; camera 1 0 5; camera 1 1 4; strike 1 x2; ofFrame 1 0 1 = 5; ofFrame 1 1 1 = 4",
            motor(5, 14, 0, 10, 9) + "anew 0 2; camera 0 2 11; strike 0; ofFrame 0 2 1 = 11; anew 0 2; camera 0 2 9; strike 0; ofFrame 0 2 1 = 14",
            motor(5, 14, 0, 10, 9) + "anew 0 1; camera 0 1 -1; camera 0 2 -2; strike 0 x2; ofFrame 0 2 1 = -2",
            motor(5, 14, 0, 10, 9, 9) + "anew 0 3; camera 0 3 10; strike 0; ofFrame 0 3 1 = 5");
        the.term("a way goes on as places stay",
            motor(5, 14, 0, 10, 10, 9), motor(5, 14, 0, 10, 10, 10, 9), motor(5, -4, 10, 0, 0, 1), motor(5, 14, 0, 10, 9, 9),
            motor(5, -4, 10, 0, 1, 1), motor(5, 11, 0, 10, 10, 11), motor(5, 13, 0, 10, 9, 9, 8), motor(5, 5, 0, 10, 9, 9, 10));
        the.term("As long as it has not turned in the shot it is where it is told to be",
            motor(20, 30, 0, 10, 20, 30), motor(20, -30, 0, -10, -20, -30), motor(20, 7, 7, 7, 7), motor(20, 999, 999));
        the.term("behind that by the play below that on a way up, and above it on a way down",
            motor(7, 16, 0, 10, 9), motor(7, -6, 10, 0, 1), motor(7, 3, 0, 10, 9, 10), motor(7, 4, 0, 10, 9, 10, 11), motor(7, 17, 0, 10, 9, 12, 10),
            motor(20, 1018, 0, 999, 998), motor(20, -1018, 0, -999, -998));
    }

    private static void lamp() {
        the.term("The lamp has a light, 1000 at first, that becomes less by 1 for each 3 frames that are struck, all shots together",
            THREE + "assign {0 1 2} 0; light = 1000; strike 0 x2; light = 1000; strike 0; light = 999; strike 2 x2; light = 999; strike 1 !S; light = 999; strike 2; light = 998; anew 0 0; light = 998; strike 0 x2; light = 998; strike 0; light = 997",
            HELD + "strike 0 x3; light = 999; strike 0 x3; light = 998");
        the.holdsBeyond("but not below 500", worn(1497) + "light = 501; strike 0 x2; light = 501; strike 0; light = 500; strike 0; ofFrame 0 12 2 = 500");
        the.holdsBeyond("but not below 500", worn(1502) + "light = 500; strike 0; light = 500; strike 0 x4; light = 500; lamp = 500; light = 1000; strike 0 x3; light = 999");
        the.term("a new lamp has 1000 again, and begins anew",
            SCENE + "strike 0 x2; lamp = 1000; strike 0; light = 1000; strike 0; light = 1000; strike 0; light = 999; lamp = 999; light = 1000; lamp = 1000; strike 0; light = 1000");
    }

    /** So many frames struck under one lamp; more than 512 calls, so that nothing is promised of them. */
    private static String worn(int frames) {
        StringBuilder calls = new StringBuilder("puppet 1; shot 0 48 1 NONE; assign 0 0\n");
        for (int i = 0; i < frames / 48; i++) {
            calls.append("strike 0 x48; anew 0 0\n");
        }
        return calls + "strike 0 x" + frames % 48 + "\n";
    }

    private static void whatStandsInTheWay() {
        the.term("A frame of a shot is struck: the next one, from 0 on", SCENE + "struck 0 = 0; strike 0 = 0; strike 0 = 1; anew 0 0; strike 0 = 0; strike 0 x5 = 5; strike 0 !S");
        the.term("the first of these: the shot has no animator",
            "puppet 1; shot 0 2 1 NONE; shot 0 2 1 NONE; bars 0 = 1; strike 0 !S; assign 1 0; bars 0 = 1; assign 0 0; bars 0 = 0; strike 0 = 0");
        the.term("the animator is ill", SCENE + "ill 0 true; bars 0 = 2; strike 0 !S; ill {1 2 3 4} true; ill 0 false; bars 0 = 0; strike 0 = 0; ill 0 true; bars 0 = 2; strike 0 !S");
        the.term("the animator has another shot that has begun, and is not done",
            // not begun, begun, all but one frame, done, shot anew in part, thrown away
            THREE + "assign {0 2} 0; bars 2 = 0; strike 0; bars 2 = 3; strike 2 !S; strike 0; bars 2 = 3; strike 2 !S; strike 0; bars 2 = 0; anew 0 2; bars 2 = 3; strike 2 !S; anew 0 0; bars 2 = 0; strike 2 = 0; bars 0 = 3; bars 2 = 0",
            THREE + "assign 0 0; assign 2 1; strike 0; bars 2 = 0; assign 2 0; bars 2 = 3",
            // both have begun, by a shot that was taken over
            THREE + "assign 0 0; assign 2 1; strike 0; strike 2; ill 0 true; bars 2 = 0; assign 0 1; bars 0 = 3; bars 2 = 3; strike 0 !S; strike 2 !S; ill 1 true; assign 2 2; bars 2 = 0; strike 2 = 1");
        the.term("the puppet stands in another shot that has begun, and is not done",
            THREE + "assign 0 0; assign 1 1; assign 2 2; bars 1 = 0; strike 0; bars 1 = 4; bars 2 = 0; strike 1 !S; strike 0; bars 1 = 4; strike 1 !S; strike 0; bars 1 = 0; anew 0 2; bars 1 = 4; strike 1 !S; anew 0 0; bars 1 = 0; strike 1 = 0; bars 0 = 4; bars 1 = 0",
            THREE + "assign 0 0; assign 1 1; strike 0 x3; strike 1; anew 0 2; bars 0 = 4; bars 1 = 4; strike 0 !S; strike 1 !S; anew 1 0; bars 0 = 0; strike 0 = 2");
        the.term("a joint of it is broken", BROKEN + "bars 0 = 5; strike 0 !S; mend 0 0; bars 0 = 0; strike 0 = 8",
            BROKEN.replace("125", "124") + "ofJoint 0 0 1 = 992; bars 0 = 0; strike 0 = 8",
            "puppet 6; shot 0 9 1 NONE; assign 0 0; key 0 5 {0 2 4 6} 125; key 0 5 {1 3 5 7 8} 0; strike 0 x8; bars 0 = 5; strike 0 !S; mend 0 {0 4}; bars 0 = 5; mend 0 5 = 1000; bars 0 = 0",
            // the other puppet's joint is broken
            BROKEN + "shot 1 1 1 NONE; assign 1 1; bars 1 = 0; strike 1 = 0");
        the.term("a mouth is wanted of which the puppet has none left",
            SCENE + "puppet 2; sound 7 1; sound 8 1; voice; dub 0 0; mouths 0 8 1; mouths 1 7 1; bars 0 = 6; strike 0 !S; mouths 0 7 1; bars 0 = 0; strike 0 = 0; strike 0 = 1; left 0 7 = 0; left 0 8 = 0; strike 0 = 2");
    }

    private static void theFirstOfThese() {
        String voice = "sound 7 9; voice\n";
        String first = "It is not, with what stands in its way as the cause, the first of these";
        the.term(first,
            // 1 ahead of 4, 6 and 5
            THREE + voice + "assign 0 0; strike 0; dub 1 0; bars 1 = 1; strike 1 !S", BROKEN + "shot 0 1 1 NONE; bars 1 = 1; strike 1 !S",
            // 2 ahead of 3, 4, 6, and of 5
            THREE + "assign {0 2} 0; strike 0; bars 2 = 3; ill 0 true; bars 2 = 2; strike 2 !S", THREE + voice + "assign 0 0; assign 1 1; strike 0; dub 1 0; bars 1 = 4; ill 1 true; bars 1 = 2",
            BROKEN + "ill 0 true; bars 0 = 2; strike 0 !S; ill 0 false; bars 0 = 5",
            // 3 ahead of 4, 5 and 6
            THREE + "assign {0 1} 0; strike 0; bars 1 = 3; strike 1 !S", THREE + voice + "dub 2 0; assign {0 2} 0; strike 0; bars 2 = 3; strike 0 x2; bars 2 = 6",
            BROKEN + "mend 0 0; strike 0; anew 0 1; anew 0 0; strike 0 x8; shot 1 2 1 NONE; assign 1 1; strike 1; bars 0 = 5; ill 0 true; assign 0 1; bars 0 = 3; strike 0 !S",
            // 4 ahead of 5 and 6
            BROKEN + "shot 0 1 1 NONE; assign 1 1; bars 1 = 4; strike 1 !S; anew 0 0; bars 1 = 5; mend 0 0; bars 1 = 0",
            THREE + voice + "dub 1 0; assign 0 0; assign 1 1; strike 0; bars 1 = 4; strike 0 x2; bars 1 = 6; strike 1 !S; mouths 0 7 1; bars 1 = 0",
            // 5 ahead of 6
            BROKEN + voice + "dub 0 0; bars 0 = 5; mend 0 0; bars 0 = 6; mouths 0 7 1; bars 0 = 0");
        the.term("Striking throws IllegalStateException: what stands in its way, as told",
            "puppet 1; shot 0 2 1 NONE; strike 0 !S; assign 0 0; ill 0 true; strike 0 !S", THREE + "assign {0 1} 0; strike 0; strike 1 !S; ill 0 true; assign 0 1; strike 1 !S", BROKEN + "strike 0 !S");
        the.term("there is no cause if the shot is done", SCENE + "strike 0 x6; strike 0 !S");
        the.need("there is no cause if the shot is done", causeOfDone() == null);
    }

    private static Throwable causeOfDone() {
        FrameClay x = new FrameClay();
        x.puppet(1);
        x.shot(0, 1, 1, FrameClay.NONE);
        x.assign(0, 0);
        x.strike(0);
        try {
            x.strike(0);
        } catch (IllegalStateException e) {
            return e.getCause();
        }
        return new IllegalStateException("it was struck");
    }

    private static void heldFrames() {
        String voice = "sound 7 1; voice; sound 8 3; voice\n";
        String worn = HELD + "key 0 0 0 180; key 0 0 2 0; key 0 0 4 90; strike 0 x6; anew 0 0; strike 0 x6; anew 0 0; strike 0 x2; ofJoint 0 0 1 = 900\n";
        the.term("A held frame is not posed, and takes no mouth: the last two do not matter then",
            // broken by frame 2: the held frame 3 is struck, frame 4 is not
            worn + "strike 0 = 2; ofJoint 0 0 1 = 1080; bars 0 = 0; strike 0 = 3; ofJoint 0 0 1 = 1080; bars 0 = 5; strike 0 !S",
            // no mouth left: the same
            HELD + voice + "dub 0 0; mouths 0 7 1; strike 0; dub 0 1; mouth 0 1 = 8; bars 0 = 0; strike 0 = 1; ofFrame 0 1 0 = 7; left 0 8 = 0; bars 0 = 6; strike 0 !S",
            HELD + voice + "dub 0 0; mouths 0 7 1; mouths 0 8 2; strike 0; dub 0 1; strike 0; left 0 8 = 2; strike 0; left 0 8 = 1",
            // the others matter
            HELD + "strike 0; ill 0 true; bars 0 = 2; strike 0 !S", HELD + "shot 0 3 1 NONE; assign 1 1; strike 0 x6; strike 1; anew 0 1; bars 0 = 4; strike 0 !S");
    }

    private static void wear() {
        the.term("As a frame that is not held is struck, each joint goes from where it stands to its degree in the sheet, the shorter way, and is worn by that way, in degrees",
            SCENE + "key 0 0 0 179; key 0 0 1 359; key 0 0 2 180; key 0 0 3 179; key 0 0 4 0; key 0 0 5 0; key 0 1 0 181; strike 0; ofJoint 0 0 0 = 179; ofJoint 0 0 1 = 179; ofJoint 0 1 0 = 181; ofJoint 0 1 1 = 179; strike 0; ofJoint 0 0 1 = 359; strike 0; ofJoint 0 0 1 = 538; strike 0; ofJoint 0 0 1 = 539; strike 0; ofJoint 0 0 1 = 718; strike 0; ofJoint 0 0 1 = 718; ofJoint 0 1 1 = 179",
            HELD + "key 0 0 0 10; strike 0; key 0 0 2 50; strike 0; ofJoint 0 0 0 = 10; ofJoint 0 0 1 = 10; strike 0; ofJoint 0 0 0 = 50; ofJoint 0 0 1 = 50",
            // from where another shot left it
            "puppet 1; shot 0 1 1 NONE; shot 0 1 1 NONE; assign {0 1} 0; key 0 0 0 350; key 1 0 0 10; strike 0; strike 1; ofJoint 0 0 0 = 10; ofJoint 0 0 1 = 30");
        String nearly = "puppet 1; shot 0 9 1 NONE; assign 0 0; key 0 0 {0 2 4} 160; key 0 0 {1 3 5} 0; key 0 0 6 39; key 0 0 7 40; key 0 0 8 41; strike 0 x7; ofJoint 0 0 1 = 999\n";
        the.term("it is broken at 1000 or more, behind that frame",
            nearly + "bars 0 = 0; strike 0 = 7; ofJoint 0 0 1 = 1000; pose 0 0 7 = 40; ofJoint 0 0 0 = 40; bars 0 = 5; strike 0 !S; shot 0 1 1 NONE; assign 1 1; anew 0 0; bars 0 = 5; bars 1 = 5; strike 1 !S",
            nearly.replace("key 0 0 7 40", "key 0 0 7 219") + "bars 0 = 0; strike 0 = 7; ofJoint 0 0 1 = 1179; bars 0 = 5; strike 0 !S; mend 0 0 = 1179; bars 0 = 0",
            nearly + "mend 0 0 = 999; strike 0 x2 = 8; ofJoint 0 0 1 = 2");
        the.term("a joint that is mended is worn 0", nearly + "mend 0 0 = 999; ofJoint 0 0 1 = 0; ofJoint 0 0 0 = 39; mend 0 0 = 0");
    }

    private static void usedMouths() {
        String voice = "sound 7 1; sound 7 1; sound 8 1; sound 7 2; voice; sound 7 1; voice\n";
        the.term("If the mouth changes, one is used up",
            SCENE + voice + "dub 0 0; mouths 0 7 3; mouths 0 8 2; strike 0; left 0 7 = 2; strike 0; left 0 7 = 2; strike 0; left 0 7 = 2; left 0 8 = 1; strike 0; left 0 7 = 1; strike 0; left 0 7 = 1; strike 0; left 0 7 = 1; left 0 8 = 1");
        the.term("A mouth changes, if it is not NONE, and not that which the frame struck ahead of it in the shot kept",
            // kept, not in the sheet of now; then NONE, and 7 behind it
            SCENE + voice + "mouths 0 7 2; strike 0; ofFrame 0 0 0 = NONE; dub 0 0; strike 0; left 0 7 = 1; ofFrame 0 1 0 = 7; dub 0 NONE; strike 0; left 0 7 = 1; dub 0 0; strike 0; left 0 7 = 0; ofFrame 0 3 0 = 7; strike 0; left 0 7 = 0",
            SCENE + voice + "dub 0 1; mouths 0 7 2; strike 0; left 0 7 = 1; dub 0 0; strike 0; left 0 7 = 1",
            // in the shot: the one struck ahead in another shot does not matter
            SCENE + voice + "shot 0 1 1 1; assign 1 0; dub 0 1; mouths 0 7 3; strike 1; left 0 7 = 2; strike 0; left 0 7 = 1; strike 0; left 0 7 = 1",
            // behind what is thrown away
            SCENE + voice + "dub 0 0; mouths 0 7 1; mouths 0 8 2; strike 0 x3; anew 0 1; strike 0; left 0 7 = 0; strike 0; left 0 8 = 0; anew 0 0; bars 0 = 6; strike 0 !S");
        the.term("A mouth changes, if it is not NONE",
            // the sound 0 is a mouth as others are, in frame 0 too, and behind NONE
            SCENE + "sound 0 2; voice; bars 0 = 0; dub 0 0; bars 0 = 6; strike 0 !S; mouths 0 0 3; strike 0; left 0 0 = 2; strike 0; left 0 0 = 2; strike 0; left 0 0 = 2; ofFrame 0 2 0 = NONE; anew 0 1; dub 0 NONE; strike 0; dub 0 0; anew 0 0; strike 0; left 0 0 = 1");
        the.term("it is wanted then", SCENE + voice + "dub 0 1; bars 0 = 6; mouths 0 7 1; strike 0; left 0 7 = 0; dub 0 0; bars 0 = 0; strike 0; bars 0 = 6; dub 0 1; bars 0 = 0; strike 0; dub 0 0; bars 0 = 6");
    }

    private static void whatIsKept() {
        String voice = "sound 7 9; voice; sound 8 9; voice; mouths 0 7 9; mouths 0 8 9\n";
        the.term("What is struck keeps the degrees and the mouth of the sheet as it is then, a held frame those that the frame struck ahead of it kept",
            SCENE + voice + "dub 0 0; key 0 0 0 10; key 0 1 0 20; strike 0 x2; key 0 0 2 30; dub 0 1; degree 0 0 1 = 20; mouth 0 1 = 8; pose 0 0 1 = 10; pose 0 1 1 = 20; ofFrame 0 1 0 = 7; strike 0; pose 0 0 2 = 30; pose 0 1 2 = 20; ofFrame 0 2 0 = 8; faults 0 1 = 3",
            HELD + voice + "dub 0 0; key 0 0 0 10; strike 0 x3; key 0 0 4 30; dub 0 1; degree 0 0 3 = 20; mouth 0 3 = 8; strike 0; pose 0 0 3 = 10; ofFrame 0 3 0 = 7; faults 0 3 = 3; anew 0 3; strike 0; pose 0 0 3 = 10; ofFrame 0 3 0 = 7");
        the.term("moreover where the camera is, with the play of then, the light by the frames struck ahead of it, and the table",
            SCENE + "play 3; camera 0 0 0; camera 0 1 10; camera 0 2 5; strike 0 x3; ofFrame 0 2 1 = 8; play 4; ofFrame 0 2 1 = 8; bump 0 9; strike 0; ofFrame 0 {0 2} 2 = 1000; ofFrame 0 3 2 = 999; ofFrame 0 2 3 = 0; ofFrame 0 3 3 = 9; ofFrame 0 3 1 = 9; lamp; ofFrame 0 3 2 = 999; level 0; ofFrame 0 3 3 = 9; strike 0; ofFrame 0 4 2 = 1000; ofFrame 0 4 3 = 0");
    }

    private static void bumps() {
        the.term("A bump moves the table of a shot that has begun by so many units, -99 to 99",
            SCENE + "bump 0 1 !S; strike 0; bump 0 100 !A; bump 0 -100 !A; bump 0 99 = 99; bump 0 -99 = 0; bump 0 -99 = -99; anew 0 0; bump 0 1 !S; level 0 = -99");
        the.term("what is struck behind it has the sum of all bumps of the shot since it was level",
            SCENE + "shot 0 6 1 NONE; strike 0; bump 0 99; bump 0 99; strike 0; bump 0 -98; strike 0; level 0 = 100; strike 0; bump 0 -1; strike 0; ofFrame 0 0 3 = 0; ofFrame 0 1 3 = 198; ofFrame 0 2 3 = 100; ofFrame 0 3 3 = 0; ofFrame 0 4 3 = -1; strike 0; assign 1 0; strike 1; ofFrame 1 0 3 = 0");
        the.term("To level the table makes the sum 0", SCENE + "level 0 = 0; strike 0; bump 0 7; level 0 = 7; level 0 = 0; bump 0 1 = 1");
    }

    private static void shootingAnew() {
        the.term("To shoot anew from a frame throws that and all behind it away",
            SCENE + "strike 0 x4; anew 0 4 !S; anew 0 3 = 1; struck 0 = 3; pose 0 0 2 = 0; pose 0 0 3 !I; anew 0 1 = 2; ofFrame 0 0 0 = NONE; ofFrame 0 1 0 !I; faults 0 1 !I; key 0 0 1 5; key 0 0 0 5 !S; anew 0 0 = 1; struck 0 = 0; key 0 0 0 5 = 5");
        the.term("mouths that were used up do not come back, nor does what is worn",
            SCENE + "sound 7 6; voice; dub 0 0; mouths 0 7 2; key 0 0 0 100; strike 0 x2; left 0 7 = 1; anew 0 0; left 0 7 = 1; ofJoint 0 0 1 = 100; ofJoint 0 0 0 = 100; strike 0; left 0 7 = 0; ofJoint 0 0 1 = 100; anew 0 0; strike 0 !S");
        the.term("the table stays as it is", SCENE + "strike 0 x2; bump 0 5; anew 0 1; strike 0; ofFrame 0 1 3 = 5; anew 0 0; strike 0; ofFrame 0 0 3 = 5; level 0 = 5");
        the.term("A key can be told for a frame that is not struck yet, alone",
            SCENE + "strike 0 x2; key 0 0 1 5 !S; key 0 0 2 5 = 0; camera 0 1 5 !S; camera 0 2 5 = 0; strike 0 x4; key 0 0 5 6 !S; camera 0 5 6 !S; anew 0 5; key 0 0 5 6 = 5; camera 0 5 6 = 5");
        the.term("it may change what the sheet tells for others that are",
            SCENE + "strike 0 x2; key 0 0 2 5; degree 0 0 1 = 5; faults 0 1 = 1; camera 0 2 5; place 0 0 = 5; faults 0 0 = 17");
    }

    private static void faults() {
        String voice = "sound 7 9; voice; sound 8 9; voice; mouths 0 7 9; mouths 0 8 9\n";
        // shot 0 waits with one frame struck, as the shots 1 and 2 of other puppets go on
        String two = "puppet 1 x3; shot 0 3 1 NONE; shot 1 48 1 NONE; shot 2 48 1 NONE; assign 0 0; assign 1 1; assign 2 2; strike 0; strike 1 x48\n";
        the.term("Faults of a frame that is struck are, as bits: 1 its degrees are not those of the sheet",
            SCENE + "strike 0 x2; faults 0 1 = 0; key 0 0 2 1; faults 0 1 = 1; key 0 0 2 0; faults 0 1 = 0; key 0 1 2 359; faults 0 1 = 1; strike 0; faults 0 2 = 0");
        the.term("2 its mouth is not",
            SCENE + voice + "strike 0; dub 0 0; faults 0 0 = 2; strike 0; faults 0 1 = 0; dub 0 1; faults 0 1 = 2; dub 0 NONE; faults 0 1 = 2; faults 0 0 = 0");
        the.term("4 its table is bumped",
            SCENE + "strike 0; bump 0 1; faults 0 0 = 0; strike 0; bump 0 -2; strike 0; bump 0 1; strike 0; faults 0 1 = 4; faults 0 2 = 4; faults 0 3 = 0; bump 0 99; strike 0; level 0; faults 0 4 = 4; strike 0; faults 0 5 = 0");
        the.term("8 its light is more than 20 from that of the frame ahead of it in the shot",
            // 62 and 63 frames are struck ahead of the second frame of shot 0
            two + "strike 2 x13; strike 0; ofFrame 0 1 2 = 980; faults 0 1 = 0; strike 0; faults 0 2 = 0",
            two + "strike 2 x14; strike 0; ofFrame 0 1 2 = 979; faults 0 1 = 8; strike 0; faults 0 2 = 0; faults 0 0 = 0; faults 2 0 = 0",
            // brighter by 20 and by 21, with a new lamp
            two + "strike 2 x13; strike 0; lamp; strike 0; ofFrame 0 2 2 = 1000; faults 0 2 = 0", two + "strike 2 x14; strike 0; lamp; strike 0; faults 0 2 = 8",
            // the frame 0 has none ahead of it, though it is struck much later than frames of others
            two + "strike 2 x14; anew 0 0; strike 0; faults 0 0 = 0; strike 0; faults 0 1 = 0");
        the.term("16 its camera is not where the sheet tells it to be",
            SCENE + "play 1; camera 0 0 0; camera 0 1 5; camera 0 2 4; camera 0 3 4; strike 0 x2; faults 0 1 = 0; strike 0; faults 0 2 = 16; play 0; faults 0 2 = 16; strike 0; faults 0 3 = 0; camera 0 5 6; strike 0; faults 0 4 = 0",
            SCENE + "strike 0 x2; camera 0 2 1; faults 0 {0 1} = 16; camera 0 2 0; faults 0 {0 1} = 0");
        the.term("Faults of a frame that is struck are, as bits",
            two + voice + "dub 0 0; strike 2 x14; bump 0 3; strike 0; faults 0 1 = 12; key 0 0 2 5; camera 0 2 5; dub 0 1; faults 0 1 = 31; faults 0 0 = 19; faults 0 2 !I");
    }

    private static void film() {
        String three = THREE + "assign {0 1 2} 0; strike 0 x3; strike 1 x3; strike 2 x3\n";
        the.term("The film is the shots that are done, in the order in which they were cut into it, each at most once",
            three + "film 0 = NONE; anew 1 2; cut 1 !S; strike 1; cut 2 = 3; cut 0 = 6; cut 0 !S; cut 2 !S; cut 1 = 9; film 0 = 200; film 2 = 202; film 3 = 0; film 5 = 2; film 6 = 100; film 8 = 102; film 9 = NONE");
        the.term("a shot in it cannot be shot anew", three + "cut 1; anew 1 {0 2} !S; anew 0 2 = 1; cutOut 1; anew 1 2 = 1");
        the.term("it can be cut out", three + "cut 1; cut 0; cutOut 1 = 3; cutOut 1 !S; film 0 = 0; cut 1 = 6; film 3 = 100; cutOut 0 = 3; cutOut 1 = 0; film 0 = NONE");
    }

    private static void exceptions() {
        // what a refused call leaves as it was is looked at for each "!" of SentenceTest and of this one
        the.term("A call that throws an exception changes nothing",
            SCENE + "sound 7 2; mouths 0 7 1 = 1; mouths 0 7 9 !S; left 0 7 = 1; sound 7 25 !A; sound 8 1 = 2; play 7; play 21 !A; play 3 = 7; key 0 0 0 360 !A; degree 0 0 0 = 0; assign 0 5 !I; assign 0 1 = 0; ill 5 true !I; voice = 0; dub 0 0; dub 0 1 !I; dub 0 0 = 0; strike 0; bump 0 5; bump 0 100 !A; level 0 = 5; anew 0 1 !S; struck 0 = 1; cut 0 !S; film 0 = NONE",
            SCENE + "sound 7 9; voice; dub 0 0; key 0 0 0 90; strike 0 !S; struck 0 = 0; ofJoint 0 0 0 = 0; ofJoint 0 0 1 = 0; light = 1000; mouths 0 7 1; strike 0 = 0; left 0 7 = 0; ofFrame 0 0 2 = 1000");
        the.term("If several exceptions apply, the one that is named first in the throws clause is thrown",
            "mouths 0 10 0 !I; shot 0 0 0 0 !I; puppet 1 x5; puppet 7 !A; mouths 5 10 0 !I; mouths 0 0 9; mouths 0 0 10 !A; mouths 5 0 9 !I; sound 0 1 x12; sound 10 1 !A; voice; shot 0 1 1 NONE x8; shot 0 49 1 NONE !A; shot 0 1 1 1 !I; shot 5 1 3 0 !I",
            HELD + "strike 0 x2; assign 0 5 !I; key 1 0 0 360 !I; key 0 2 1 360 !I; key 0 0 6 360 !I; key 0 0 1 360 !A; key 0 0 3 360 !A; camera 0 6 1000 !I; camera 0 0 1000 !A; anew 0 6 !I; strike 1 !I; cut 1 !I; cutOut 1 !I",
            SCENE + "bump 1 100 !I; bump 0 100 !A; bump 1 1 !I; wants 1 10 !I; ofFrame 1 0 4 !I; ofFrame 0 0 4 !I; ofJoint 1 0 2 !I; ofJoint 0 2 2 !I; left 1 10 !I");
        the.term("A method that takes a puppet, a joint, a voice, a shot, a frame or an animator throws IndexOutOfBoundsException if there is no such one",
            SCENE + "sound 0 1; voice; strike 0; mouths {-1 1} 0 1 !I; shot {-1 1} 1 1 0 !I; shot 0 1 1 {-2 1} !I; assign {-1 1} 0 !I; assign 0 {-1 5} !I; ill {-1 5} true !I; dub {-1 1} 0 !I; dub 0 {-2 1} !I; key {-1 1} 0 1 0 !I; key 0 {-1 2} 1 0 !I; key 0 0 {-1 6} 0 !I; camera {-1 1} 1 0 !I; camera 0 {-1 6} 0 !I; strike {-1 1} !I; bump {-1 1} 0 !I; level {-1 1} !I; anew {-1 1} 0 !I; anew 0 {-1 6} !I",
            SCENE + "strike 0; mend {-1 1} 0 !I; mend 0 {-1 2} !I; cut {-1 1} !I; cutOut {-1 1} !I; degree {-1 1} 0 0 !I; degree 0 {-1 2} 0 !I; degree 0 0 {-1 6} !I; mouth {-1 1} 0 !I; mouth 0 {-1 6} !I; place {-1 1} 0 !I; place 0 {-1 6} !I; wants {-1 1} 0 !I; bars {-1 1} !I; wears {-1 1} 0 !I; wears 0 {-1 2} !I; struck {-1 1} !I; pose {-1 1} 0 0 !I; pose 0 {-1 2} 0 !I; pose 0 0 {-1 1 6} !I; ofFrame {-1 1} 0 0 !I; ofFrame 0 {-1 1 6} 0 !I; faults {-1 1} 0 !I; faults 0 {-1 1 6} !I; ofJoint {-1 1} 0 0 !I; ofJoint 0 {-1 2} 0 !I; left {-1 1} 0 !I; film -1 !I");
    }
}
