/** A film that is made frame by frame; ../shared/DOC.md says what each call does. */
public final class FrameClay {
    public static final int NONE = -1;

    private static final int MOST_PUPPETS = 5;
    private static final int MOST_JOINTS = 6;
    private static final int SOUNDS = 10;
    private static final int MOST_MOUTHS = 9;
    private static final int MOST_VOICES = 6;
    private static final int MOST_SPOKEN = 12;
    private static final int LONGEST_SOUND = 24;
    private static final int MOST_SHOTS = 8;
    private static final int LONGEST_SHOT = 48;
    private static final int ANIMATORS = 5;
    private static final int ROUND = 360;
    private static final int FARTHEST_PLACE = 999;
    private static final int MOST_PLAY = 20;
    private static final int HARDEST_BUMP = 99;
    private static final int BROKEN = 1000;
    private static final int NEW_LIGHT = 1000;
    private static final int LEAST_LIGHT = 500;
    private static final int FRAMES_PER_LIGHT = 3;
    private static final int LIGHT_STEP = 20;
    private static final int SHOT_IN_FILM = 100;

    private static final int BAR_NOTHING = 0;
    private static final int BAR_NO_ANIMATOR = 1;
    private static final int BAR_ILL = 2;
    private static final int BAR_ANIMATOR_BUSY = 3;
    private static final int BAR_PUPPET_BUSY = 4;
    private static final int BAR_BROKEN = 5;
    private static final int BAR_NO_MOUTH = 6;
    private static final int BAR_DONE = 7;

    private static final int FAULT_POSE = 1;
    private static final int FAULT_MOUTH = 2;
    private static final int FAULT_TABLE = 4;
    private static final int FAULT_LIGHT = 8;
    private static final int FAULT_CAMERA = 16;

    private final Puppet[] puppets = new Puppet[MOST_PUPPETS];
    private int puppetCount = 0;
    private final Voice[] voices = new Voice[MOST_VOICES];
    private int voiceCount = 0;
    private Voice spoken = new Voice();
    private final Shot[] shots = new Shot[MOST_SHOTS];
    private int shotCount = 0;
    private final boolean[] illness = new boolean[ANIMATORS];
    private final int[] cuts = new int[MOST_SHOTS];
    private int cutCount = 0;
    private int motorPlay = 0;
    private int framesUnderLamp = 0;

    public FrameClay() {
    }

    // ---- puppets, voices, shots

    public int puppet(int joints) throws IllegalArgumentException, IllegalStateException {
        needRange(joints, 1, MOST_JOINTS);
        if (puppetCount >= MOST_PUPPETS) {
            throw new IllegalStateException("there are 5 puppets");
        }
        puppets[puppetCount] = new Puppet(joints);
        return puppetCount++;
    }

    public int mouths(int puppet, int sound, int many)
            throws IndexOutOfBoundsException, IllegalArgumentException, IllegalStateException {
        Puppet doll = puppetAt(puppet);
        needSound(sound);
        needRange(many, 1, MOST_MOUTHS);
        if (doll.mouthsLeft[sound] + many > MOST_MOUTHS) {
            throw new IllegalStateException("more than 9 mouths");
        }
        doll.mouthsLeft[sound] += many;
        return doll.mouthsLeft[sound];
    }

    public int sound(int sound, int frames) throws IllegalArgumentException, IllegalStateException {
        needSound(sound);
        needRange(frames, 1, LONGEST_SOUND);
        if (spoken.count >= MOST_SPOKEN) {
            throw new IllegalStateException("the voice has 12 sounds");
        }
        spoken.add(sound, frames);
        return spoken.count;
    }

    public int voice() throws IllegalStateException {
        if (spoken.count == 0) {
            throw new IllegalStateException("the voice has no sound");
        }
        if (voiceCount >= MOST_VOICES) {
            throw new IllegalStateException("there are 6 voices");
        }
        voices[voiceCount] = spoken;
        spoken = new Voice();
        return voiceCount++;
    }

    public int shot(int puppet, int frames, int step, int voice)
            throws IndexOutOfBoundsException, IllegalArgumentException, IllegalStateException {
        Puppet doll = puppetAt(puppet);
        needVoiceOrNone(voice);
        needRange(frames, 1, LONGEST_SHOT);
        needRange(step, 1, 2);
        if (shotCount >= MOST_SHOTS) {
            throw new IllegalStateException("there are 8 shots");
        }
        shots[shotCount] = new Shot(doll, frames, step, voice);
        return shotCount++;
    }

    public int assign(int shot, int animator) throws IndexOutOfBoundsException, IllegalStateException {
        Shot taken = shotAt(shot);
        needAnimator(animator);
        if (taken.isDone()) {
            throw new IllegalStateException("the shot is done");
        }
        if (taken.hasBegun() && !isIll(taken.animator)) {
            throw new IllegalStateException("the shot has begun, and its animator is not ill");
        }
        int before = taken.animator;
        taken.animator = animator;
        return before;
    }

    public boolean ill(int animator, boolean is) throws IndexOutOfBoundsException {
        needAnimator(animator);
        boolean before = illness[animator];
        illness[animator] = is;
        return before;
    }

    public int dub(int shot, int voice) throws IndexOutOfBoundsException {
        Shot taken = shotAt(shot);
        needVoiceOrNone(voice);
        int before = taken.voice;
        taken.voice = voice;
        return before;
    }

    // ---- sheets

    public int key(int shot, int joint, int frame, int degree)
            throws IndexOutOfBoundsException, IllegalArgumentException, IllegalStateException {
        Shot taken = shotAt(shot);
        needJoint(taken.doll, joint);
        needFrame(taken, frame);
        needRange(degree, 0, ROUND - 1);
        needNotStruck(taken, frame);
        if (taken.isHeld(frame)) {
            throw new IllegalStateException("the frame is held");
        }
        int before = taken.sheetDegree(joint, frame);
        taken.degrees[joint].tell(frame, degree);
        return before;
    }

    public int camera(int shot, int frame, int place)
            throws IndexOutOfBoundsException, IllegalArgumentException, IllegalStateException {
        Shot taken = shotAt(shot);
        needFrame(taken, frame);
        needRange(place, -FARTHEST_PLACE, FARTHEST_PLACE);
        needNotStruck(taken, frame);
        int before = taken.places.valueAt(frame);
        taken.places.tell(frame, place);
        return before;
    }

    public int play(int units) throws IllegalArgumentException {
        needRange(units, 0, MOST_PLAY);
        int before = motorPlay;
        motorPlay = units;
        return before;
    }

    // ---- striking

    public int strike(int shot) throws IndexOutOfBoundsException, IllegalStateException {
        Shot taken = shotAt(shot);
        refuseBarred(barOf(taken));
        Reel reel = taken.reel;
        int frame = reel.count;
        if (taken.isHeld(frame)) {
            reel.repeatPoseAndMouth();
        } else {
            poseNext(taken, frame);
        }
        reel.keepNext(taken.places.valueAt(frame), motorPlay, lampLight(), taken.table);
        framesUnderLamp++;
        return frame;
    }

    public int bump(int shot, int units)
            throws IndexOutOfBoundsException, IllegalArgumentException, IllegalStateException {
        Shot taken = shotAt(shot);
        needRange(units, -HARDEST_BUMP, HARDEST_BUMP);
        if (!taken.hasBegun()) {
            throw new IllegalStateException("the shot has not begun");
        }
        taken.table += units;
        return taken.table;
    }

    public int level(int shot) throws IndexOutOfBoundsException {
        Shot taken = shotAt(shot);
        int before = taken.table;
        taken.table = 0;
        return before;
    }

    public int anew(int shot, int frame) throws IndexOutOfBoundsException, IllegalStateException {
        Shot taken = shotAt(shot);
        needFrame(taken, frame);
        if (!taken.isStruck(frame)) {
            throw new IllegalStateException("the frame is not struck");
        }
        if (cutIndex(shot) != NONE) {
            throw new IllegalStateException("the shot is in the film");
        }
        int thrown = taken.reel.count - frame;
        taken.reel.count = frame;
        return thrown;
    }

    public int mend(int puppet, int joint) throws IndexOutOfBoundsException {
        Puppet doll = puppetAt(puppet);
        needJoint(doll, joint);
        int before = doll.worn[joint];
        doll.worn[joint] = 0;
        return before;
    }

    public int lamp() {
        int before = lampLight();
        framesUnderLamp = 0;
        return before;
    }

    // ---- the film

    public int cut(int shot) throws IndexOutOfBoundsException, IllegalStateException {
        Shot taken = shotAt(shot);
        if (!taken.isDone()) {
            throw new IllegalStateException("the shot is not done");
        }
        if (cutIndex(shot) != NONE || cutCount >= MOST_SHOTS) {
            throw new IllegalStateException("the shot is in the film");
        }
        cuts[cutCount] = shot;
        cutCount++;
        return filmLength();
    }

    public int cutOut(int shot) throws IndexOutOfBoundsException, IllegalStateException {
        needShot(shot);
        int index = cutIndex(shot);
        if (index == NONE) {
            throw new IllegalStateException("the shot is not in the film");
        }
        cutCount--;
        for (int i = index; i < cutCount; i++) {
            cuts[i] = cuts[i + 1];
        }
        return filmLength();
    }

    // ---- what there is; nothing from here on changes anything

    public int degree(int shot, int joint, int frame) throws IndexOutOfBoundsException {
        Shot taken = shotAt(shot);
        needJoint(taken.doll, joint);
        needFrame(taken, frame);
        return taken.sheetDegree(joint, frame);
    }

    public int mouth(int shot, int frame) throws IndexOutOfBoundsException {
        Shot taken = shotAt(shot);
        needFrame(taken, frame);
        return sheetMouth(taken, frame);
    }

    public int place(int shot, int frame) throws IndexOutOfBoundsException {
        Shot taken = shotAt(shot);
        needFrame(taken, frame);
        return taken.places.valueAt(frame);
    }

    public int wants(int shot, int sound) throws IndexOutOfBoundsException, IllegalArgumentException {
        Shot taken = shotAt(shot);
        needSound(sound);
        int many = 0;
        int before = NONE;
        for (int frame = 0; frame < taken.frames; frame++) {
            int now = sheetMouth(taken, frame);
            if (now == sound && now != before) {
                many++;
            }
            before = now;
        }
        return many;
    }

    public int bars(int shot) throws IndexOutOfBoundsException {
        return barOf(shotAt(shot));
    }

    public int wears(int shot, int joint) throws IndexOutOfBoundsException {
        Shot taken = shotAt(shot);
        needJoint(taken.doll, joint);
        int stands = taken.doll.stands[joint];
        int sum = 0;
        for (int frame = taken.reel.count; frame < taken.frames; frame++) {
            if (!taken.isHeld(frame)) {
                int next = taken.sheetDegree(joint, frame);
                sum += Math.abs(shorterWay(stands, next));
                stands = next;
            }
        }
        return sum;
    }

    public int struck(int shot) throws IndexOutOfBoundsException {
        return shotAt(shot).reel.count;
    }

    public int pose(int shot, int joint, int frame) throws IndexOutOfBoundsException {
        Shot taken = shotAt(shot);
        needJoint(taken.doll, joint);
        needStruck(taken, frame);
        return taken.reel.poses[joint][frame];
    }

    public int ofFrame(int shot, int frame, int what)
            throws IndexOutOfBoundsException, IllegalArgumentException {
        Shot taken = shotAt(shot);
        needStruck(taken, frame);
        needRange(what, 0, 3);
        switch (what) {
            case 0:
                return taken.reel.mouths[frame];
            case 1:
                return taken.reel.cameras[frame];
            case 2:
                return taken.reel.lights[frame];
            default:
                return taken.reel.tables[frame];
        }
    }

    public int faults(int shot, int frame) throws IndexOutOfBoundsException {
        Shot taken = shotAt(shot);
        needStruck(taken, frame);
        Reel reel = taken.reel;
        int bits = taken.posedAsSheet(frame) ? 0 : FAULT_POSE;
        if (reel.mouths[frame] != sheetMouth(taken, frame)) {
            bits |= FAULT_MOUTH;
        }
        if (reel.tables[frame] != 0) {
            bits |= FAULT_TABLE;
        }
        if (frame > 0 && Math.abs(reel.lights[frame] - reel.lights[frame - 1]) > LIGHT_STEP) {
            bits |= FAULT_LIGHT;
        }
        if (reel.cameras[frame] != taken.places.valueAt(frame)) {
            bits |= FAULT_CAMERA;
        }
        return bits;
    }

    public int ofJoint(int puppet, int joint, int what)
            throws IndexOutOfBoundsException, IllegalArgumentException {
        Puppet doll = puppetAt(puppet);
        needJoint(doll, joint);
        needRange(what, 0, 1);
        return what == 0 ? doll.stands[joint] : doll.worn[joint];
    }

    public int left(int puppet, int sound) throws IndexOutOfBoundsException, IllegalArgumentException {
        Puppet doll = puppetAt(puppet);
        needSound(sound);
        return doll.mouthsLeft[sound];
    }

    public int light() {
        return lampLight();
    }

    public int film(int at) throws IndexOutOfBoundsException {
        if (at < 0) {
            throw new IndexOutOfBoundsException("no such frame of the film");
        }
        int ahead = 0;
        for (int i = 0; i < cutCount; i++) {
            int frames = shots[cuts[i]].frames;
            // at - ahead, and not ahead + frames: at may be as large as an int is
            if (at - ahead < frames) {
                return SHOT_IN_FILM * cuts[i] + at - ahead;
            }
            ahead += frames;
        }
        return NONE;
    }

    // ---- what arguments must be

    private static void needRange(int value, int least, int most) {
        if (value < least || value > most) {
            throw new IllegalArgumentException("out of range");
        }
    }

    private static void needSound(int sound) {
        needRange(sound, 0, SOUNDS - 1);
    }

    private static void needAnimator(int animator) {
        if (animator < 0 || animator >= ANIMATORS) {
            throw new IndexOutOfBoundsException("no such animator");
        }
    }

    private void needVoiceOrNone(int voice) {
        if (voice != NONE && (voice < 0 || voice >= voiceCount)) {
            throw new IndexOutOfBoundsException("no such voice");
        }
    }

    private void needShot(int shot) {
        if (shot < 0 || shot >= shotCount) {
            throw new IndexOutOfBoundsException("no such shot");
        }
    }

    private static void needJoint(Puppet doll, int joint) {
        if (joint < 0 || joint >= doll.joints) {
            throw new IndexOutOfBoundsException("no such joint");
        }
    }

    private static void needFrame(Shot taken, int frame) {
        if (frame < 0 || frame >= taken.frames) {
            throw new IndexOutOfBoundsException("no such frame");
        }
    }

    private static void needStruck(Shot taken, int frame) {
        if (frame < 0 || !taken.isStruck(frame)) {
            throw new IndexOutOfBoundsException("no such struck frame");
        }
    }

    private static void needNotStruck(Shot taken, int frame) {
        if (taken.isStruck(frame)) {
            throw new IllegalStateException("the frame is struck");
        }
    }

    private Puppet puppetAt(int puppet) {
        if (puppet < 0 || puppet >= puppetCount) {
            throw new IndexOutOfBoundsException("no such puppet");
        }
        return puppets[puppet];
    }

    private Shot shotAt(int shot) {
        needShot(shot);
        return shots[shot];
    }

    // ---- what stands in the way of a frame

    private boolean isIll(int animator) {
        return animator != NONE && illness[animator];
    }

    private int barOf(Shot taken) {
        if (taken.isDone()) {
            return BAR_DONE;
        }
        if (taken.animator == NONE) {
            return BAR_NO_ANIMATOR;
        }
        if (isIll(taken.animator)) {
            return BAR_ILL;
        }
        if (animatorIsBusy(taken)) {
            return BAR_ANIMATOR_BUSY;
        }
        if (puppetIsBusy(taken)) {
            return BAR_PUPPET_BUSY;
        }
        return taken.isHeld(taken.reel.count) ? BAR_NOTHING : barOfPosing(taken);
    }

    private int barOfPosing(Shot taken) {
        if (taken.doll.isBroken()) {
            return BAR_BROKEN;
        }
        int mouth = mouthWanted(taken, taken.reel.count);
        if (mouth != NONE && taken.doll.mouthsLeft[mouth] == 0) {
            return BAR_NO_MOUTH;
        }
        return BAR_NOTHING;
    }

    private boolean animatorIsBusy(Shot taken) {
        for (int i = 0; i < shotCount; i++) {
            Shot other = shots[i];
            if (other != taken && other.isUnderWay() && other.animator == taken.animator) {
                return true;
            }
        }
        return false;
    }

    private boolean puppetIsBusy(Shot taken) {
        for (int i = 0; i < shotCount; i++) {
            Shot other = shots[i];
            if (other != taken && other.isUnderWay() && other.doll == taken.doll) {
                return true;
            }
        }
        return false;
    }

    // The document wants a cause of its own class in each of these; LANGUAGE.md's rule 6 leaves an
    // exception no cause and no class of ours, so that the text alone tells them apart.
    private static void refuseBarred(int bar) {
        switch (bar) {
            case BAR_NOTHING:
                return;
            case BAR_NO_ANIMATOR:
                throw new IllegalStateException("the shot has no animator");
            case BAR_ILL:
                throw new IllegalStateException("the animator is ill");
            case BAR_ANIMATOR_BUSY:
            case BAR_PUPPET_BUSY:
                throw new IllegalStateException("another shot has begun, and is not done");
            case BAR_BROKEN:
                throw new IllegalStateException("a joint is broken");
            case BAR_NO_MOUTH:
                throw new IllegalStateException("no such mouth is left");
            default:
                throw new IllegalStateException("the shot is done");
        }
    }

    // ---- posing, mouths, the lamp, the film

    private void poseNext(Shot taken, int frame) {
        int used = mouthWanted(taken, frame);
        if (used != NONE) {
            taken.doll.mouthsLeft[used]--;
        }
        taken.reel.mouths[frame] = sheetMouth(taken, frame);
        for (int joint = 0; joint < taken.doll.joints; joint++) {
            int degree = taken.sheetDegree(joint, frame);
            taken.doll.turn(joint, degree);
            taken.reel.poses[joint][frame] = degree;
        }
    }

    private int sheetMouth(Shot taken, int frame) {
        return taken.voice == NONE ? NONE : voices[taken.voice].soundAt(taken.posedFrame(frame));
    }

    /** The mouth to which the next frame, one that is not held, changes; NONE if it changes to none. */
    private int mouthWanted(Shot taken, int frame) {
        int mouth = sheetMouth(taken, frame);
        return mouth == taken.reel.lastMouth() ? NONE : mouth;
    }

    private int lampLight() {
        return Math.max(LEAST_LIGHT, NEW_LIGHT - framesUnderLamp / FRAMES_PER_LIGHT);
    }

    private int cutIndex(int shot) {
        for (int i = 0; i < cutCount; i++) {
            if (cuts[i] == shot) {
                return i;
            }
        }
        return NONE;
    }

    private int filmLength() {
        int sum = 0;
        for (int i = 0; i < cutCount; i++) {
            sum += shots[cuts[i]].frames;
        }
        return sum;
    }

    /** Degrees from one to the other, -179 to 180: upward if both ways are as long. */
    private static int shorterWay(int from, int to) {
        int up = Math.floorMod(to - from, ROUND);
        return up > ROUND / 2 ? up - ROUND : up;
    }

    private static final class Puppet {
        final int joints;
        final int[] stands;
        final int[] worn;
        final int[] mouthsLeft = new int[SOUNDS];

        Puppet(int joints) {
            this.joints = joints;
            this.stands = new int[joints];
            this.worn = new int[joints];
        }

        void turn(int joint, int degree) {
            worn[joint] += Math.abs(shorterWay(stands[joint], degree));
            stands[joint] = degree;
        }

        boolean isBroken() {
            for (int joint = 0; joint < joints; joint++) {
                if (worn[joint] >= BROKEN) {
                    return true;
                }
            }
            return false;
        }
    }

    private static final class Voice {
        private final int[] sounds = new int[MOST_SPOKEN];
        private final int[] ends = new int[MOST_SPOKEN];
        int count = 0;

        void add(int sound, int frames) {
            sounds[count] = sound;
            ends[count] = count == 0 ? frames : ends[count - 1] + frames;
            count++;
        }

        int soundAt(int frame) {
            for (int i = 0; i < count; i++) {
                if (frame < ends[i]) {
                    return sounds[i];
                }
            }
            return NONE;
        }
    }

    /** The keys of a joint, or of the camera, over the frames of a shot. */
    private static final class Track {
        private final boolean goesRound;
        private final int[] values;
        private final boolean[] told;

        Track(int frames, boolean goesRound) {
            this.goesRound = goesRound;
            this.values = new int[frames];
            this.told = new boolean[frames];
        }

        void tell(int frame, int value) {
            values[frame] = value;
            told[frame] = true;
        }

        int valueAt(int frame) {
            int first = keyUpTo(frame);
            int second = keyFrom(frame);
            if (first == NONE) {
                return second == NONE ? 0 : values[second];
            }
            if (second <= first) {
                return values[first];
            }
            return between(first, second, frame);
        }

        private int keyUpTo(int frame) {
            for (int i = frame; i >= 0; i--) {
                if (told[i]) {
                    return i;
                }
            }
            return NONE;
        }

        private int keyFrom(int frame) {
            for (int i = frame; i < told.length; i++) {
                if (told[i]) {
                    return i;
                }
            }
            return NONE;
        }

        private int between(int first, int second, int frame) {
            int span = second - first;
            if (span <= 0) {
                return values[first];
            }
            int way = goesRound ? shorterWay(values[first], values[second]) : values[second] - values[first];
            int value = values[first] + way * (frame - first) / span;
            return goesRound ? Math.floorMod(value, ROUND) : value;
        }
    }

    /** What the struck frames of a shot have kept. */
    private static final class Reel {
        final int[][] poses;
        final int[] mouths;
        final int[] cameras;
        final int[] lights;
        final int[] tables;
        // keys told later change the sheet of struck frames, the motor's way was the one told then
        private final int[] toldPlaces;
        int count = 0;

        Reel(int joints, int frames) {
            poses = new int[joints][frames];
            mouths = new int[frames];
            cameras = new int[frames];
            lights = new int[frames];
            tables = new int[frames];
            toldPlaces = new int[frames];
        }

        int lastMouth() {
            return count == 0 ? NONE : mouths[count - 1];
        }

        void repeatPoseAndMouth() {
            mouths[count] = lastMouth();
            if (count == 0) {
                return;
            }
            for (int joint = 0; joint < poses.length; joint++) {
                poses[joint][count] = poses[joint][count - 1];
            }
        }

        void keepNext(int told, int play, int light, int table) {
            toldPlaces[count] = told;
            cameras[count] = cameraOfNext(play);
            lights[count] = light;
            tables[count] = table;
            count++;
        }

        private int cameraOfNext(int play) {
            int way = 0;
            boolean turned = false;
            for (int frame = 1; frame <= count; frame++) {
                int next = Integer.compare(toldPlaces[frame], toldPlaces[frame - 1]);
                if (next != 0) {
                    turned = turned || way * next < 0;
                    way = next;
                }
            }
            if (!turned) {
                return toldPlaces[count];
            }
            return way > 0 ? toldPlaces[count] - play : toldPlaces[count] + play;
        }
    }

    private static final class Shot {
        final Puppet doll;
        final int frames;
        private final int step;
        int voice;
        int animator = NONE;
        int table = 0;
        final Track[] degrees;
        final Track places;
        final Reel reel;

        Shot(Puppet doll, int frames, int step, int voice) {
            this.doll = doll;
            this.frames = frames;
            this.step = step;
            this.voice = voice;
            this.degrees = new Track[doll.joints];
            for (int joint = 0; joint < doll.joints; joint++) {
                this.degrees[joint] = new Track(frames, true);
            }
            this.places = new Track(frames, false);
            this.reel = new Reel(doll.joints, frames);
        }

        boolean isHeld(int frame) {
            return posedFrame(frame) != frame;
        }

        /** The frame whose pose and mouth a frame has: of a held one the one ahead of it. */
        int posedFrame(int frame) {
            return step == 2 && frame % 2 == 1 ? frame - 1 : frame;
        }

        boolean isStruck(int frame) {
            return frame < reel.count;
        }

        boolean hasBegun() {
            return reel.count > 0;
        }

        boolean isDone() {
            return reel.count >= frames;
        }

        boolean isUnderWay() {
            return hasBegun() && !isDone();
        }

        int sheetDegree(int joint, int frame) {
            return degrees[joint].valueAt(posedFrame(frame));
        }

        boolean posedAsSheet(int frame) {
            for (int joint = 0; joint < degrees.length; joint++) {
                if (reel.poses[joint][frame] != sheetDegree(joint, frame)) {
                    return false;
                }
            }
            return true;
        }
    }
}
