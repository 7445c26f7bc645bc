import java.util.ArrayList;

/** A tunnel that is driven under a city, ring by ring. */
public final class Boringhead {
    private static final int PLACES = 200;
    private static final int MOST_RINGS = 120;
    private static final int MOST_BOREHOLES = 20;
    private static final int MOST_HOUSES = 8;
    private static final int MOST_SEGMENTS = 40;
    private static final int ROTATIONS = 8;
    private static final int CUTTERS = 8;
    private static final int FAST_CUTTERS = 2;
    private static final int WORN_OUT = 100;
    private static final int REACH = 10;
    private static final int OFF_LIMIT = 50;
    private static final int PIT = 2000;
    private static final int LORRY = 20;
    private static final int LORRY_MINUTES = 5;
    private static final int LIFT_MINUTES = 15;
    private static final int SETTING_MINUTES = 600;
    private static final int NOTICE_MINUTES = 4320;
    private static final int DAY = 1440;
    private static final int CLOCK_END = 99999;
    private static final int NONE = -1;
    private static final char NOTHING = '-';

    private static final int SAND = 1;
    private static final int BOULDERS = 3;
    private static final char[] KINDS = {'c', 's', 'r', 'b'};
    private static final int[] EARTH = {2, 4, 0, 3};
    private static final int[] STRENGTH = {8, 5, 20, 7};
    private static final int[] WEAR = {1, 4, 12, 20};
    private static final int[] BULK = {130, 120, 160, 140};
    private static final int[] MINUTES = {30, 40, 90, 70};
    private static final int[] OVERCUT = {2, 5, 1, 4};

    private static final int[] TURN_RIGHT = {0, 7, 10, 7, 0, -7, -10, -7};
    private static final int[] TURN_UP = {10, 7, 0, -7, -10, -7, 0, 7};

    private static final char[] CAUSES = {'g', 'p', 'c', 's', 'm', 'w', 'h'};
    private static final char[] OWNERS = {'b', 'k', 'n'};

    private final Soil soil = new Soil();
    private final Shield shield = new Shield();
    private final Course course = new Course();
    // Made once for the plan and for isSound, so that neither makes an object in each call.
    private final Course trial = new Course();
    private final Yard yard = new Yard();
    private final Clock clock = new Clock();
    private final Contract contract = new Contract();
    private final ArrayList<Ring> built = new ArrayList<Ring>();
    private final ArrayList<House> houses = new ArrayList<House>();

    public Boringhead() {
    }

    // ---- the ground

    public int ground(int from, int to, char kind) throws IllegalArgumentException, UnsupportedOperationException {
        return tellKind(soil.kinds, from, to, kind);
    }

    public int reference(int from, int to, char kind) throws IllegalArgumentException, UnsupportedOperationException {
        return tellKind(soil.references, from, to, kind);
    }

    public int depth(int from, int to, int depth) throws IllegalArgumentException, UnsupportedOperationException {
        return tellNumber(soil.depths, from, to, depth, 10, 60);
    }

    public int water(int from, int to, int water) throws IllegalArgumentException, UnsupportedOperationException {
        return tellNumber(soil.waters, from, to, water, 0, 40);
    }

    public int bend(int from, int to, int right, int up) throws IllegalArgumentException, UnsupportedOperationException {
        if (!isStretch(from, to) || !isWithin(right, -20, 20) || !isWithin(up, -20, 20)) {
            throw new IllegalArgumentException("no such places, or no such bend");
        }
        refuseBuilt(from);
        fill(soil.bendsRight, from, to, right);
        fill(soil.bendsUp, from, to, up);
        return to - from + 1;
    }

    public int bore(int place, char kind) throws IllegalArgumentException, IllegalStateException {
        int found = indexIn(KINDS, kind);
        if (!isPlace(place) || found < 0) {
            throw new IllegalArgumentException("no such place, or no such kind");
        }
        int number = soil.boreholes.size();
        if (number >= MOST_BOREHOLES) {
            throw new IllegalStateException("there are 20 boreholes");
        }
        soil.boreholes.add(new Borehole(place, found));
        return number;
    }

    public char guess(int place) throws IllegalArgumentException {
        if (!isPlace(place)) {
            throw new IllegalArgumentException("no such place");
        }
        if (place < built.size()) {
            return letterAt(KINDS, at(soil.kinds, place));
        }
        int kind = soil.likeliest(place);
        return kind < 0 ? '?' : letterAt(KINDS, kind);
    }

    public int doubt(int place) throws IllegalArgumentException {
        if (!isPlace(place)) {
            throw new IllegalArgumentException("no such place");
        }
        if (place < built.size()) {
            return 0;
        }
        int all = soil.weightOfAll(place);
        if (all <= 0) {
            return 1000;
        }
        return 1000 - 1000 * soil.weight(place, soil.likeliest(place)) / all;
    }

    // ---- the shield

    public int pressure(int pressure) throws IllegalArgumentException {
        if (!isWithin(pressure, 0, 2000)) {
            throw new IllegalArgumentException("no such pressure");
        }
        int before = shield.pressing;
        shield.pressing = pressure;
        return before;
    }

    public int lower(int place) throws IllegalArgumentException {
        if (!isPlace(place)) {
            throw new IllegalArgumentException("no such place");
        }
        return soil.bound(place, EARTH);
    }

    public int upper(int place) throws IllegalArgumentException {
        if (!isPlace(place)) {
            throw new IllegalArgumentException("no such place");
        }
        return soil.bound(place, STRENGTH);
    }

    public boolean foam(boolean is) {
        boolean before = shield.foaming;
        shield.foaming = is;
        return before;
    }

    public int worn(int cutter) throws IndexOutOfBoundsException {
        if (!isWithin(cutter, 0, CUTTERS - 1)) {
            throw new IndexOutOfBoundsException("no such cutter");
        }
        return at(shield.wears, cutter);
    }

    public int change(int cutter) throws IndexOutOfBoundsException, UnsupportedOperationException, IllegalStateException {
        if (!isWithin(cutter, 0, CUTTERS - 1)) {
            throw new IndexOutOfBoundsException("no such cutter");
        }
        if (at(shield.wears, cutter) == 0) {
            throw new UnsupportedOperationException("the cutter is not worn at all");
        }
        int minutes = changeMinutes(at(soil.waters, built.size()));
        refuseLate(minutes);
        put(shield.wears, cutter, 0);
        clock.minute += minutes;
        clock.forChanges += minutes;
        return minutes;
    }

    public int steer(int right, int up) throws IllegalArgumentException {
        if (!isWithin(right, -5, 5) || !isWithin(up, -5, 5)) {
            throw new IllegalArgumentException("the jacks can't push so");
        }
        int before = 10 * shield.pushRight + shield.pushUp;
        shield.pushRight = right;
        shield.pushUp = up;
        return before;
    }

    public char bars(int rotation) throws IllegalArgumentException {
        if (!isWithin(rotation, 0, ROTATIONS - 1)) {
            throw new IllegalArgumentException("no such rotation");
        }
        return barOf(rotation);
    }

    public int advance(int rotation) throws IllegalArgumentException, UnsupportedOperationException, IllegalStateException {
        if (!isWithin(rotation, 0, ROTATIONS - 1)) {
            throw new IllegalArgumentException("no such rotation");
        }
        if (barOf(rotation) != NOTHING) {
            throw new UnsupportedOperationException("the next ring is barred");
        }
        int minutes = nextMinutes();
        refuseLate(minutes);
        build(rotation, minutes);
        return minutes;
    }

    // ---- the rings

    public int rings() {
        return built.size();
    }

    public int off(int ring, boolean up) throws IndexOutOfBoundsException {
        Ring found = ringAt(ring);
        return up ? found.offUp : found.offRight;
    }

    public int heading(boolean up) {
        return up ? course.headingUp : course.headingRight;
    }

    public int rotation(int ring) throws IndexOutOfBoundsException {
        return ringAt(ring).turn;
    }

    public int plan(int rings) throws IllegalArgumentException {
        if (!isWithin(rings, 1, 3)) {
            throw new IllegalArgumentException("no plan for so many rings");
        }
        return turnOf(bestRow(rings), 0, rings);
    }

    public long squares(int rings) throws IllegalArgumentException {
        if (!isWithin(rings, 1, 3)) {
            throw new IllegalArgumentException("no plan for so many rings");
        }
        return sumOfRow(bestRow(rings), rings);
    }

    public int offRings() {
        int many = 0;
        for (int i = 0; i < built.size(); i++) {
            if (built.get(i).isOff()) {
                many++;
            }
        }
        return many;
    }

    // ---- grout

    public int grout(int ring, int amount) throws IndexOutOfBoundsException, IllegalArgumentException, UnsupportedOperationException {
        Ring found = ringAt(ring);
        if (!isWithin(amount, 1, 200)) {
            throw new IllegalArgumentException("no such amount");
        }
        if (amount > found.room() || found.hasSet(clock.minute)) {
            throw new UnsupportedOperationException("it doesn't fit, or the grout has set");
        }
        if (found.filled == 0) {
            found.firstFilled = clock.minute;
        }
        found.filled += amount;
        return found.missing();
    }

    public int lost(int ring) throws IndexOutOfBoundsException {
        return ringAt(ring).missing();
    }

    // ---- houses

    public int house(int from, int to, int offset) throws IllegalArgumentException, IllegalStateException {
        if (!isStretch(from, to) || !isWithin(offset, 0, 60)) {
            throw new IllegalArgumentException("no such places, or no such offset");
        }
        int number = houses.size();
        if (number >= MOST_HOUSES) {
            throw new IllegalStateException("there are 8 houses");
        }
        houses.add(new House(from, to, offset));
        return number;
    }

    public int settles(int house, boolean last) throws IndexOutOfBoundsException {
        return settlement(houseAt(house), last);
    }

    public int tilt(int house) throws IndexOutOfBoundsException {
        return tiltOf(houseAt(house));
    }

    public int damage(int house) throws IndexOutOfBoundsException {
        int tilted = tiltOf(houseAt(house));
        if (tilted < 10) {
            return 0;
        }
        if (tilted < 30) {
            return 1;
        }
        if (tilted < 60) {
            return 2;
        }
        return tilted < 100 ? 3 : 4;
    }

    public int read(int house) throws IndexOutOfBoundsException {
        House found = houseAt(house);
        found.reading = Math.max(settlement(found, false), settlement(found, true));
        found.wasRead = true;
        return found.reading;
    }

    public char alarm(int house) throws IndexOutOfBoundsException {
        return houseAt(house).colour();
    }

    public int lift(int house, boolean last, int amount) throws IndexOutOfBoundsException, IllegalArgumentException, IllegalStateException {
        House found = houseAt(house);
        if (!isWithin(amount, 1, 50)) {
            throw new IllegalArgumentException("no such amount");
        }
        refuseLate(LIFT_MINUTES);
        if (last) {
            found.liftedLast += amount;
        } else {
            found.liftedFirst += amount;
        }
        clock.minute += LIFT_MINUTES;
        clock.forLifts += LIFT_MINUTES;
        return settlement(found, last);
    }

    // ---- stuff

    public int deliver(int segments) throws IllegalArgumentException, UnsupportedOperationException {
        if (!isWithin(segments, 1, MOST_SEGMENTS)) {
            throw new IllegalArgumentException("no such number of segments");
        }
        if (yard.segments + segments > MOST_SEGMENTS) {
            throw new UnsupportedOperationException("there is no room for all");
        }
        yard.segments += segments;
        return yard.segments;
    }

    public int muck() {
        return yard.inPit;
    }

    public int lorries(int many) throws IllegalArgumentException, UnsupportedOperationException, IllegalStateException {
        if (!isWithin(many, 1, 100)) {
            throw new IllegalArgumentException("no such number of lorries");
        }
        if (!clock.isLorryTime() || yard.inPit <= 0) {
            throw new UnsupportedOperationException("no lorries go, or the pit is empty");
        }
        int go = Math.min(many, (yard.inPit + LORRY - 1) / LORRY);
        int minutes = go * LORRY_MINUTES;
        refuseLate(minutes);
        int taken = Math.min(go * LORRY, yard.inPit);
        yard.inPit -= taken;
        yard.away += taken;
        clock.minute += minutes;
        clock.forLorries += minutes;
        return taken;
    }

    // ---- time and the contract

    public int now() {
        return clock.minute;
    }

    public int pause(int minutes, char cause, char other) throws IllegalArgumentException, IllegalStateException {
        boolean isOther = other == NOTHING || indexIn(CAUSES, other) >= 0;
        if (!isWithin(minutes, 1, DAY) || indexIn(CAUSES, cause) < 0 || !isOther || cause == other) {
            throw new IllegalArgumentException("no such minutes, or no such causes");
        }
        refuseLate(minutes);
        contract.addWait(minutes, cause, other);
        clock.minute += minutes;
        return clock.minute;
    }

    public int first(char cause) throws IllegalArgumentException {
        int place = indexIn(contract.order, cause);
        if (place < 0) {
            throw new IllegalArgumentException("no such cause");
        }
        contract.putFirst(place);
        return place;
    }

    public int waited(char whose) throws IllegalArgumentException {
        int owner = indexIn(OWNERS, whose);
        if (owner < 0) {
            throw new IllegalArgumentException("no such letter");
        }
        return at(contract.waits, owner);
    }

    public int events() {
        int many = 0;
        for (int i = 0; i < built.size(); i++) {
            if (built.get(i).isEvent()) {
                many++;
            }
        }
        return many;
    }

    public boolean notice(int ring) throws IndexOutOfBoundsException, UnsupportedOperationException {
        Ring found = ringAt(ring);
        if (!found.isEvent() || found.isNoticed) {
            throw new UnsupportedOperationException("it is no event, or a notice was given");
        }
        found.isNoticed = true;
        found.isInTime = clock.minute - found.end <= NOTICE_MINUTES;
        return found.isInTime;
    }

    public int claimed() {
        int minutes = 0;
        for (int i = 0; i < built.size(); i++) {
            Ring ring = built.get(i);
            if (ring.isInTime) {
                minutes += ring.more;
            }
        }
        return minutes;
    }

    // ---- sums

    public int count(char kind) throws IllegalArgumentException {
        int wanted = indexIn(KINDS, kind);
        if (wanted < 0) {
            throw new IllegalArgumentException("no such kind");
        }
        int many = 0;
        for (int i = 0; i < built.size(); i++) {
            if (built.get(i).kind == wanted) {
                many++;
            }
        }
        return many;
    }

    public float groutShare() throws ArithmeticException {
        if (built.isEmpty()) {
            throw new ArithmeticException("there are no rings");
        }
        int filled = 0;
        int gaps = 0;
        for (int i = 0; i < built.size(); i++) {
            filled += built.get(i).filled;
            gaps += built.get(i).gap();
        }
        return (float) filled / (float) gaps;
    }

    public double meanMinutes() throws ArithmeticException {
        if (built.isEmpty()) {
            throw new ArithmeticException("there are no rings");
        }
        return (double) minutesOfRings() / (double) built.size();
    }

    public long checksum() {
        long sum = 7;
        for (int i = 0; i < built.size(); i++) {
            Ring ring = built.get(i);
            sum = 31 * sum + ring.turn;
            sum = 31 * sum + ring.offRight;
            sum = 31 * sum + ring.offUp;
            sum = 31 * sum + ring.missing();
        }
        return 31 * sum + clock.minute;
    }

    public boolean isSound() {
        return isCourseSound() && isMuckSound() && areEventsSound() && areRingsSound() && isClockSound();
    }

    // ---- what the arguments may be

    private static boolean isWithin(int number, int least, int most) {
        return number >= least && number <= most;
    }

    private static boolean isPlace(int place) {
        return isWithin(place, 0, PLACES - 1);
    }

    private static boolean isStretch(int from, int to) {
        return isPlace(from) && isPlace(to) && from <= to;
    }

    // Rings stand from place 0 on without a hole, so the first place of a stretch tells of all.
    private void refuseBuilt(int from) {
        if (from < built.size()) {
            throw new UnsupportedOperationException("a ring stands there");
        }
    }

    private void refuseLate(int minutes) {
        if (clock.minute + minutes > CLOCK_END) {
            throw new IllegalStateException("the clock would go beyond its end");
        }
    }

    private Ring ringAt(int ring) {
        if (ring < 0 || ring >= built.size()) {
            throw new IndexOutOfBoundsException("no such ring");
        }
        return built.get(ring);
    }

    private House houseAt(int house) {
        if (house < 0 || house >= houses.size()) {
            throw new IndexOutOfBoundsException("no such house");
        }
        return houses.get(house);
    }

    // ---- telling of places

    private int tellKind(int[] row, int from, int to, char kind) {
        int found = indexIn(KINDS, kind);
        if (!isStretch(from, to) || found < 0) {
            throw new IllegalArgumentException("no such places, or no such kind");
        }
        refuseBuilt(from);
        return fill(row, from, to, found);
    }

    private int tellNumber(int[] row, int from, int to, int number, int least, int most) {
        if (!isStretch(from, to) || !isWithin(number, least, most)) {
            throw new IllegalArgumentException("no such places, or a number out of range");
        }
        refuseBuilt(from);
        int before = at(row, from);
        fill(row, from, to, number);
        return before;
    }

    // ---- rows of numbers and letters

    private static int at(int[] row, int index) {
        return index >= 0 && index < row.length ? row[index] : 0;
    }

    private static void put(int[] row, int index, int value) {
        if (index >= 0 && index < row.length) {
            row[index] = value;
        }
    }

    private static int fill(int[] row, int from, int to, int value) {
        int others = 0;
        for (int i = Math.max(from, 0); i <= to && i < row.length; i++) {
            if (row[i] != value) {
                others++;
            }
            row[i] = value;
        }
        return others;
    }

    private static char letterAt(char[] letters, int index) {
        return index >= 0 && index < letters.length ? letters[index] : NOTHING;
    }

    private static int indexIn(char[] letters, char letter) {
        for (int i = 0; i < letters.length; i++) {
            if (letters[i] == letter) {
                return i;
            }
        }
        return NONE;
    }

    // ---- driving

    private char barOf(int turn) {
        int place = built.size();
        if (place >= MOST_RINGS) {
            return 'e';
        }
        if (!isWithin(shield.pressing, soil.bound(place, EARTH), soil.bound(place, STRENGTH))) {
            return 'p';
        }
        if (shield.isWornOut()) {
            return 'c';
        }
        if (yard.segments <= 0) {
            return 's';
        }
        if (PIT - yard.inPit < muckOf(at(soil.kinds, place), shield.foaming)) {
            return 'm';
        }
        if (turn == lastTurn()) {
            return 'j';
        }
        return isRedNear(place) ? 'a' : NOTHING;
    }

    private int lastTurn() {
        return built.isEmpty() ? NONE : built.get(built.size() - 1).turn;
    }

    private boolean isRedNear(int place) {
        for (int i = 0; i < houses.size(); i++) {
            House house = houses.get(i);
            if (house.awayFrom(place) <= REACH && house.colour() == 'r') {
                return true;
            }
        }
        return false;
    }

    private static int muckOf(int kind, boolean isFoamed) {
        int bulk = at(BULK, kind) + (isFoamed ? 10 : 0);
        return 50 * bulk / 100;
    }

    private int nextMinutes() {
        int rings = built.size();
        return at(MINUTES, at(soil.kinds, rings)) - Math.min(rings / 10, 10);
    }

    private static int changeMinutes(int water) {
        if (water <= 10) {
            return 20;
        }
        if (water <= 20) {
            return 50;
        }
        return water <= 30 ? 80 : 140;
    }

    private void build(int turn, int minutes) {
        int place = built.size();
        int kind = at(soil.kinds, place);
        Ring ring = new Ring(turn, kind, shield);
        go(course, ring.turn, ring.pushRight, ring.pushUp, place);
        ring.offRight = course.offRight;
        ring.offUp = course.offUp;
        clock.minute += minutes;
        ring.minutes = minutes;
        ring.end = clock.minute;
        ring.more = soil.eventMinutes(place);
        shield.wear(kind);
        yard.segments--;
        yard.inPit += muckOf(kind, shield.foaming);
        built.add(ring);
    }

    private void go(Course along, int turn, int pushRight, int pushUp, int place) {
        int right = at(TURN_RIGHT, turn) + pushRight - at(soil.bendsRight, place);
        int up = at(TURN_UP, turn) + pushUp - at(soil.bendsUp, place);
        along.go(right, up);
    }

    // ---- the plan: a row of rotations is a number of one octal digit for each, the first one the highest

    private int bestRow(int many) {
        int best = NONE;
        long least = 0;
        for (int row = 0; row < 1 << 3 * many; row++) {
            long sum = sumOfRow(row, many);
            if (sum >= 0 && (best < 0 || sum < least)) {
                best = row;
                least = sum;
            }
        }
        return best;
    }

    // Below 0 for a row in which two rings one behind the other are alike.
    private long sumOfRow(int row, int many) {
        trial.startAt(course);
        int ahead = lastTurn();
        long sum = 0;
        for (int i = 0; i < many; i++) {
            int turn = turnOf(row, i, many);
            if (turn == ahead) {
                return NONE;
            }
            go(trial, turn, shield.pushRight, shield.pushUp, built.size() + i);
            sum += trial.square();
            ahead = turn;
        }
        return sum;
    }

    private static int turnOf(int row, int index, int many) {
        return row >> 3 * (many - 1 - index) & 7;
    }

    // ---- settlements

    private int tiltOf(House house) {
        return Math.abs(settlement(house, false) - settlement(house, true));
    }

    private int settlement(House house, boolean isLast) {
        int place = isLast ? house.to : house.from;
        int sum = 0;
        for (int i = 0; i < built.size(); i++) {
            sum += sunkBy(i, built.get(i).missing(), place, house.offset);
        }
        return sum - (isLast ? house.liftedLast : house.liftedFirst);
    }

    private int sunkBy(int ring, int missing, int place, int offset) {
        int depth = at(soil.depths, ring);
        int away = place - ring;
        int divisor = 10 * (depth * depth + away * away + offset * offset);
        return divisor > 0 ? missing * depth * depth / divisor : 0;
    }

    // ---- soundness

    private boolean isCourseSound() {
        trial.startAtLine();
        for (int i = 0; i < built.size(); i++) {
            Ring ring = built.get(i);
            go(trial, ring.turn, ring.pushRight, ring.pushUp, i);
            if (ring.offRight != trial.offRight || ring.offUp != trial.offUp) {
                return false;
            }
        }
        return trial.isLike(course);
    }

    private boolean isMuckSound() {
        int came = 0;
        for (int i = 0; i < built.size(); i++) {
            Ring ring = built.get(i);
            came += muckOf(ring.kind, ring.isFoamed);
        }
        return came == yard.inPit + yard.away;
    }

    private boolean areEventsSound() {
        for (int i = 0; i < built.size(); i++) {
            if (built.get(i).more != soil.eventMinutes(i)) {
                return false;
            }
        }
        return true;
    }

    private boolean areRingsSound() {
        int ahead = NONE;
        for (int i = 0; i < built.size(); i++) {
            Ring ring = built.get(i);
            if (ring.turn == ahead || ring.room() < 0) {
                return false;
            }
            ahead = ring.turn;
        }
        return true;
    }

    private boolean isClockSound() {
        return clock.minute == minutesOfRings() + contract.allWaits() + clock.forAllElse();
    }

    private int minutesOfRings() {
        int minutes = 0;
        for (int i = 0; i < built.size(); i++) {
            minutes += built.get(i).minutes;
        }
        return minutes;
    }

    private static final class Borehole {
        private final int place;
        private final int kind;

        Borehole(int place, int kind) {
            this.place = place;
            this.kind = kind;
        }
    }

    private static final class Soil {
        private final int[] kinds = new int[PLACES];
        private final int[] references = new int[PLACES];
        private final int[] depths = new int[PLACES];
        private final int[] waters = new int[PLACES];
        private final int[] bendsRight = new int[PLACES];
        private final int[] bendsUp = new int[PLACES];
        private final ArrayList<Borehole> boreholes = new ArrayList<Borehole>();

        Soil() {
            for (int place = 0; place < depths.length; place++) {
                depths[place] = 20;
            }
        }

        int bound(int place, int[] table) {
            return 10 * at(waters, place) + at(table, at(kinds, place)) * at(depths, place);
        }

        int weight(int place, int kind) {
            int sum = 0;
            for (int i = 0; i < boreholes.size(); i++) {
                Borehole hole = boreholes.get(i);
                int away = Math.abs(hole.place - place);
                if (hole.kind == kind && away <= REACH) {
                    sum += REACH + 1 - away;
                }
            }
            return sum;
        }

        int weightOfAll(int place) {
            int sum = 0;
            for (int kind = 0; kind < KINDS.length; kind++) {
                sum += weight(place, kind);
            }
            return sum;
        }

        int likeliest(int place) {
            int best = NONE;
            int most = 0;
            for (int kind = 0; kind < KINDS.length; kind++) {
                int weight = weight(place, kind);
                if (weight > most) {
                    best = kind;
                    most = weight;
                }
            }
            return best;
        }

        int eventMinutes(int place) {
            return Math.max(at(MINUTES, at(kinds, place)) - at(MINUTES, at(references, place)), 0);
        }
    }

    private static final class Shield {
        private final int[] wears = new int[CUTTERS];
        private int pressing = 0;
        private boolean foaming = false;
        private int pushRight = 0;
        private int pushUp = 0;

        boolean isWornOut() {
            for (int i = 0; i < wears.length; i++) {
                if (wears[i] >= WORN_OUT) {
                    return true;
                }
            }
            return false;
        }

        void wear(int kind) {
            boolean isHalf = foaming && (kind == SAND || kind == BOULDERS);
            int wear = isHalf ? at(WEAR, kind) / 2 : at(WEAR, kind);
            for (int i = 0; i < wears.length; i++) {
                wears[i] += i < FAST_CUTTERS ? 2 * wear : wear;
            }
        }
    }

    private static final class Course {
        private int headingRight = 0;
        private int headingUp = 0;
        private int offRight = 0;
        private int offUp = 0;

        void startAtLine() {
            headingRight = 0;
            headingUp = 0;
            offRight = 0;
            offUp = 0;
        }

        void startAt(Course other) {
            headingRight = other.headingRight;
            headingUp = other.headingUp;
            offRight = other.offRight;
            offUp = other.offUp;
        }

        void go(int right, int up) {
            headingRight += right;
            headingUp += up;
            offRight += headingRight;
            offUp += headingUp;
        }

        long square() {
            return (long) offRight * offRight + (long) offUp * offUp;
        }

        boolean isLike(Course other) {
            return headingRight == other.headingRight && headingUp == other.headingUp
                    && offRight == other.offRight && offUp == other.offUp;
        }
    }

    private static final class Ring {
        private final int turn;
        private final int kind;
        // Kept as they were when the ring was built, for isSound to reckon from.
        private final int pushRight;
        private final int pushUp;
        private final boolean isFoamed;
        private int offRight = 0;
        private int offUp = 0;
        private int minutes = 0;
        private int end = 0;
        private int more = 0;
        private boolean isNoticed = false;
        private boolean isInTime = false;
        private int filled = 0;
        private int firstFilled = 0;

        Ring(int turn, int kind, Shield shield) {
            this.turn = turn;
            this.kind = kind;
            pushRight = shield.pushRight;
            pushUp = shield.pushUp;
            isFoamed = shield.foaming;
        }

        boolean isOff() {
            return Math.abs(offRight) > OFF_LIMIT || Math.abs(offUp) > OFF_LIMIT;
        }

        boolean isEvent() {
            return more > 0;
        }

        int gap() {
            return 100 + 10 * at(OVERCUT, kind);
        }

        int room() {
            return gap() + gap() / 5 - filled;
        }

        int missing() {
            return Math.max(gap() - filled, 0);
        }

        boolean hasSet(int minute) {
            return filled > 0 && minute - firstFilled >= SETTING_MINUTES;
        }
    }

    private static final class House {
        private final int from;
        private final int to;
        private final int offset;
        private int liftedFirst = 0;
        private int liftedLast = 0;
        private boolean wasRead = false;
        private int reading = 0;

        House(int from, int to, int offset) {
            this.from = from;
            this.to = to;
            this.offset = offset;
        }

        int awayFrom(int place) {
            return Math.max(Math.max(from - place, place - to), 0);
        }

        char colour() {
            if (!wasRead) {
                return NOTHING;
            }
            if (reading < 20) {
                return 'g';
            }
            return reading < 50 ? 'y' : 'r';
        }
    }

    private static final class Yard {
        private int segments = 0;
        private int inPit = 0;
        private int away = 0;
    }

    private static final class Clock {
        private int minute = 0;
        private int forChanges = 0;
        private int forLifts = 0;
        private int forLorries = 0;

        boolean isLorryTime() {
            int ofDay = minute % DAY;
            return ofDay >= 360 && ofDay < 1320;
        }

        int forAllElse() {
            return forChanges + forLifts + forLorries;
        }
    }

    private static final class Contract {
        private final char[] order = CAUSES.clone();
        private final int[] waits = new int[OWNERS.length];

        // Whose a wait is counts as it begins: what is put first later moves no wait.
        void addWait(int minutes, char cause, char other) {
            boolean isOthers = other != NOTHING && indexIn(order, other) < indexIn(order, cause);
            int owner = ownerOf(isOthers ? other : cause);
            put(waits, owner, at(waits, owner) + minutes);
        }

        void putFirst(int place) {
            if (place <= 0 || place >= order.length) {
                return;
            }
            char moved = order[place];
            for (int i = place; i > 0; i--) {
                order[i] = order[i - 1];
            }
            order[0] = moved;
        }

        int allWaits() {
            int sum = 0;
            for (int i = 0; i < waits.length; i++) {
                sum += waits[i];
            }
            return sum;
        }

        private static int ownerOf(char cause) {
            if (cause == 'g' || cause == 'h') {
                return indexIn(OWNERS, 'k');
            }
            return indexIn(OWNERS, cause == 'w' ? 'n' : 'b');
        }
    }
}
