import java.util.ArrayList;
import java.util.Arrays;
import java.util.List;

/**
 * The document once more, for the long runs: it keeps a diary of what was done and reckons each answer from it anew,
 * so that it shares no way of reckoning with the class.
 */
public final class Model {
    private record Kind(int earth, int strength, int wear, int bulk, int minutes, int overcut) {
    }

    private record Ring(int rotation, char kind, char reference, int depth, int bendRight, int bendUp,
            int pushRight, int pushUp, boolean foamed, int end, int minutes) {
    }

    private record Grout(int ring, int amount, int at) {
    }

    private record Notice(int ring, int at) {
    }

    private record Wait(int minutes, char cause) {
    }

    private record House(int from, int to, int offset) {
    }

    private record Lift(int house, boolean last, int amount) {
    }

    private record Reading(int house, int settled) {
    }

    private record Bore(int place, char kind) {
    }

    private record Change(int cutter, int rings, int minutes) {
    }

    private final char[] kinds = new char[200];
    private final char[] references = new char[200];
    private final int[] depths = new int[200];
    private final int[] waters = new int[200];
    private final int[] rights = new int[200];
    private final int[] ups = new int[200];
    private final List<Bore> bores = new ArrayList<>();
    private final List<Ring> rings = new ArrayList<>();
    private final List<Grout> grouts = new ArrayList<>();
    private final List<Notice> notices = new ArrayList<>();
    private final List<Wait> waits = new ArrayList<>();
    private final List<House> houses = new ArrayList<>();
    private final List<Lift> lifts = new ArrayList<>();
    private final List<Reading> readings = new ArrayList<>();
    private final List<Change> changes = new ArrayList<>();
    private final List<Integer> loads = new ArrayList<>();
    private final List<Character> order = new ArrayList<>(List.of('g', 'p', 'c', 's', 'm', 'w', 'h'));
    private int delivered = 0;
    private int pressure = 0;
    private boolean foam = false;
    private int pushRight = 0;
    private int pushUp = 0;

    public Model() {
        Arrays.fill(kinds, 'c');
        Arrays.fill(references, 'c');
        Arrays.fill(depths, 20);
    }

    private static Kind kind(char letter) {
        return switch (letter) {
            case 'c' -> new Kind(2, 8, 1, 130, 30, 2);
            case 's' -> new Kind(4, 5, 4, 120, 40, 5);
            case 'r' -> new Kind(0, 20, 12, 160, 90, 1);
            case 'b' -> new Kind(3, 7, 20, 140, 70, 4);
            default -> null;
        };
    }

    private static void argument(boolean isGood) {
        if (!isGood) {
            throw new IllegalArgumentException();
        }
    }

    private static void index(int number, int count) {
        if (number < 0 || number >= count) {
            throw new IndexOutOfBoundsException();
        }
    }

    private static void unsupported(boolean isSo) {
        if (isSo) {
            throw new UnsupportedOperationException();
        }
    }

    private static void state(boolean isSo) {
        if (isSo) {
            throw new IllegalStateException();
        }
    }

    private static void place(int place) {
        argument(place >= 0 && place < 200);
    }

    private void free(int from, int to) {
        for (int i = 0; i < rings.size(); i++) {
            unsupported(from <= i && i <= to);
        }
    }

    private static void stretch(int from, int to) {
        place(from);
        place(to);
        argument(from <= to);
    }

    private static int told(char[] row, int from, int to, char kind) {
        int others = 0;
        for (int i = from; i <= to; i++) {
            others += row[i] == kind ? 0 : 1;
            row[i] = kind;
        }
        return others;
    }

    public int ground(int from, int to, char kind) {
        stretch(from, to);
        argument(kind(kind) != null);
        free(from, to);
        return told(kinds, from, to, kind);
    }

    public int reference(int from, int to, char kind) {
        stretch(from, to);
        argument(kind(kind) != null);
        free(from, to);
        return told(references, from, to, kind);
    }

    public int depth(int from, int to, int depth) {
        stretch(from, to);
        argument(depth >= 10 && depth <= 60);
        free(from, to);
        int before = depths[from];
        Arrays.fill(depths, from, to + 1, depth);
        return before;
    }

    public int water(int from, int to, int water) {
        stretch(from, to);
        argument(water >= 0 && water <= 40);
        free(from, to);
        int before = waters[from];
        Arrays.fill(waters, from, to + 1, water);
        return before;
    }

    public int bend(int from, int to, int right, int up) {
        stretch(from, to);
        argument(right >= -20 && right <= 20 && up >= -20 && up <= 20);
        free(from, to);
        Arrays.fill(rights, from, to + 1, right);
        Arrays.fill(ups, from, to + 1, up);
        return to + 1 - from;
    }

    public int bore(int place, char kind) {
        place(place);
        argument(kind(kind) != null);
        state(bores.size() == 20);
        bores.add(new Bore(place, kind));
        return bores.size() - 1;
    }

    private int weight(int place, String letters) {
        return bores.stream().filter(b -> letters.indexOf(b.kind) >= 0)
                .mapToInt(b -> Math.max(0, 11 - Math.abs(b.place - place))).sum();
    }

    public char guess(int place) {
        place(place);
        if (place < rings.size()) {
            return rings.get(place).kind;
        }
        char best = '?';
        for (char letter : "brsc".toCharArray()) {
            int weight = weight(place, "" + letter);
            if (weight > 0 && (best == '?' || weight >= weight(place, "" + best))) {
                best = letter;
            }
        }
        return best;
    }

    public int doubt(int place) {
        char guess = guess(place);
        if (place < rings.size()) {
            return 0;
        }
        return guess == '?' ? 1000 : 1000 - 1000 * weight(place, "" + guess) / weight(place, "csrb");
    }

    public int pressure(int pressure) {
        argument(pressure >= 0 && pressure <= 2000);
        int before = this.pressure;
        this.pressure = pressure;
        return before;
    }

    public int lower(int place) {
        place(place);
        return 10 * waters[place] + kind(kinds[place]).earth * depths[place];
    }

    public int upper(int place) {
        place(place);
        return 10 * waters[place] + kind(kinds[place]).strength * depths[place];
    }

    public boolean foam(boolean is) {
        boolean before = foam;
        foam = is;
        return before;
    }

    public int worn(int cutter) {
        index(cutter, 8);
        int since = 0;
        for (Change change : changes) {
            if (change.cutter == cutter) {
                since = change.rings;
            }
        }
        int sum = 0;
        for (Ring ring : rings.subList(since, rings.size())) {
            int wear = kind(ring.kind).wear;
            if (ring.foamed && "sb".indexOf(ring.kind) >= 0) {
                wear /= 2;
            }
            sum += cutter <= 1 ? 2 * wear : wear;
        }
        return sum;
    }

    public int change(int cutter) {
        unsupported(worn(cutter) == 0);
        int water = waters[rings.size()];
        int minutes = 20 + (water > 30 ? 120 : water > 20 ? 60 : water > 10 ? 30 : 0);
        state(now() + minutes > 99999);
        changes.add(new Change(cutter, rings.size(), minutes));
        return minutes;
    }

    public int steer(int right, int up) {
        argument(right >= -5 && right <= 5 && up >= -5 && up <= 5);
        int before = 10 * pushRight + pushUp;
        pushRight = right;
        pushUp = up;
        return before;
    }

    private static int muckOf(char letter, boolean foamed) {
        return 50 * (kind(letter).bulk + (foamed ? 10 : 0)) / 100;
    }

    public char bars(int rotation) {
        argument(rotation >= 0 && rotation <= 7);
        int next = rings.size();
        if (next == 120) {
            return 'e';
        }
        if (pressure < lower(next) || pressure > upper(next)) {
            return 'p';
        }
        for (int i = 0; i < 8; i++) {
            if (worn(i) >= 100) {
                return 'c';
            }
        }
        if (delivered == next) {
            return 's';
        }
        if (muck() + muckOf(kinds[next], foam) > 2000) {
            return 'm';
        }
        if (next > 0 && rings.get(next - 1).rotation == rotation) {
            return 'j';
        }
        for (int i = 0; i < houses.size(); i++) {
            for (int place = houses.get(i).from; place <= houses.get(i).to; place++) {
                if (Math.abs(place - next) <= 10 && alarm(i) == 'r') {
                    return 'a';
                }
            }
        }
        return '-';
    }

    public int advance(int rotation) {
        unsupported(bars(rotation) != '-');
        int next = rings.size();
        int minutes = kind(kinds[next]).minutes - Math.min(10, next / 10);
        state(now() + minutes > 99999);
        rings.add(new Ring(rotation, kinds[next], references[next], depths[next], rights[next], ups[next],
                pushRight, pushUp, foam, now() + minutes, minutes));
        return minutes;
    }

    public int rings() {
        return rings.size();
    }

    /** The rotations are eighths of a circle, by 10, rounded. */
    private static int turn(int rotation, boolean up) {
        return (int) Math.round(10 * Math.cos(Math.PI / 4 * (up ? rotation : rotation - 2)));
    }

    private static int change(Ring ring, boolean up) {
        return up ? turn(ring.rotation, true) + ring.pushUp - ring.bendUp
                : turn(ring.rotation, false) + ring.pushRight - ring.bendRight;
    }

    /** Each ring's change of the heading counts once for itself and once for every ring up to this one. */
    private int offBehind(int count, boolean up) {
        int sum = 0;
        for (int i = 0; i < count; i++) {
            sum += (count - i) * change(rings.get(i), up);
        }
        return sum;
    }

    public int off(int ring, boolean up) {
        index(ring, rings.size());
        return offBehind(ring + 1, up);
    }

    public int heading(boolean up) {
        return rings.stream().mapToInt(ring -> change(ring, up)).sum();
    }

    public int rotation(int ring) {
        index(ring, rings.size());
        return rings.get(ring).rotation;
    }

    public int plan(int rings) {
        return (int) best(rings)[0];
    }

    public long squares(int rings) {
        return best(rings)[1];
    }

    private long[] best(int count) {
        argument(count >= 1 && count <= 3);
        int last = rings.isEmpty() ? -1 : rings.get(rings.size() - 1).rotation;
        return best(count, 0, last, heading(false), heading(true), offBehind(rings.size(), false), offBehind(rings.size(), true));
    }

    /** The best first rotation, and the least squares from there on. */
    private long[] best(int count, int ahead, int last, long headRight, long headUp, long right, long up) {
        long[] best = {-1, 0};
        for (int rotation = 7; rotation >= 0 && count > 0; rotation--) {
            if (rotation == last) {
                continue;
            }
            int place = rings.size() + ahead;
            long toRight = headRight + turn(rotation, false) + pushRight - rights[place];
            long toUp = headUp + turn(rotation, true) + pushUp - ups[place];
            long x = right + toRight;
            long y = up + toUp;
            long sum = x * x + y * y + best(count - 1, ahead + 1, rotation, toRight, toUp, x, y)[1];
            if (best[0] < 0 || sum <= best[1]) {
                best = new long[] {rotation, sum};
            }
        }
        return best;
    }

    public int offRings() {
        int many = 0;
        for (int i = 0; i < rings.size(); i++) {
            int far = Math.max(Math.abs(off(i, false)), Math.abs(off(i, true)));
            many += far > 50 ? 1 : 0;
        }
        return many;
    }

    private int gap(int ring) {
        return 100 + 10 * kind(rings.get(ring).kind).overcut;
    }

    private int filled(int ring) {
        return grouts.stream().filter(g -> g.ring == ring).mapToInt(Grout::amount).sum();
    }

    public int grout(int ring, int amount) {
        index(ring, rings.size());
        argument(amount >= 1 && amount <= 200);
        unsupported(filled(ring) + amount > gap(ring) + gap(ring) / 5);
        int first = grouts.stream().filter(g -> g.ring == ring).mapToInt(Grout::at).min().orElse(now());
        unsupported(now() >= first + 600);
        grouts.add(new Grout(ring, amount, now()));
        return lost(ring);
    }

    public int lost(int ring) {
        index(ring, rings.size());
        return Math.max(0, gap(ring) - filled(ring));
    }

    public int house(int from, int to, int offset) {
        stretch(from, to);
        argument(offset >= 0 && offset <= 60);
        state(houses.size() == 8);
        houses.add(new House(from, to, offset));
        return houses.size() - 1;
    }

    public int settles(int house, boolean last) {
        index(house, houses.size());
        House found = houses.get(house);
        int place = last ? found.to : found.from;
        int sum = -lifts.stream().filter(l -> l.house == house && l.last == last).mapToInt(Lift::amount).sum();
        for (int i = 0; i < rings.size(); i++) {
            long square = (long) rings.get(i).depth * rings.get(i).depth;
            long far = (long) (place - i) * (place - i) + (long) found.offset * found.offset;
            sum += (int) (lost(i) * square / (10 * (square + far)));
        }
        return sum;
    }

    public int tilt(int house) {
        int a = settles(house, false);
        int b = settles(house, true);
        return a > b ? a - b : b - a;
    }

    public int damage(int house) {
        int tilt = tilt(house);
        int high = 0;
        for (int bound : new int[] {10, 30, 60, 100}) {
            high += tilt >= bound ? 1 : 0;
        }
        return high;
    }

    public int read(int house) {
        int settled = Math.max(settles(house, false), settles(house, true));
        readings.add(new Reading(house, settled));
        return settled;
    }

    public char alarm(int house) {
        index(house, houses.size());
        char alarm = '-';
        for (Reading reading : readings) {
            if (reading.house == house) {
                alarm = reading.settled >= 50 ? 'r' : reading.settled >= 20 ? 'y' : 'g';
            }
        }
        return alarm;
    }

    public int lift(int house, boolean last, int amount) {
        index(house, houses.size());
        argument(amount >= 1 && amount <= 50);
        state(now() + 15 > 99999);
        lifts.add(new Lift(house, last, amount));
        return settles(house, last);
    }

    public int deliver(int segments) {
        argument(segments >= 1 && segments <= 40);
        unsupported(delivered - rings.size() + segments > 40);
        delivered += segments;
        return delivered - rings.size();
    }

    public int muck() {
        int sum = rings.stream().mapToInt(ring -> muckOf(ring.kind, ring.foamed)).sum();
        return sum - loads.stream().mapToInt(Integer::intValue).sum();
    }

    public int lorries(int many) {
        argument(many >= 1 && many <= 100);
        int minute = now() % 1440;
        unsupported(minute < 360 || minute >= 1320 || muck() == 0);
        int left = muck();
        List<Integer> going = new ArrayList<>();
        while (going.size() < many && left > 0) {
            going.add(Math.min(20, left));
            left -= Math.min(20, left);
        }
        state(now() + 5 * going.size() > 99999);
        loads.addAll(going);
        return going.stream().mapToInt(Integer::intValue).sum();
    }

    public int now() {
        return rings.stream().mapToInt(Ring::minutes).sum() + waits.stream().mapToInt(Wait::minutes).sum()
                + changes.stream().mapToInt(Change::minutes).sum() + 15 * lifts.size() + 5 * loads.size();
    }

    public int pause(int minutes, char cause, char other) {
        argument(minutes >= 1 && minutes <= 1440);
        argument(order.contains(cause));
        argument(other == '-' || order.contains(other));
        argument(cause != other);
        state(now() + minutes > 99999);
        char counts = order.stream().filter(c -> c == cause || c == other).findFirst().orElseThrow();
        waits.add(new Wait(minutes, counts));
        return now();
    }

    public int first(char cause) {
        argument(order.contains(cause));
        int place = order.indexOf(cause);
        order.remove(place);
        order.add(0, cause);
        return place;
    }

    public int waited(char whose) {
        argument("bkn".indexOf(whose) >= 0);
        String causes = whose == 'k' ? "gh" : whose == 'n' ? "w" : "pcsm";
        return waits.stream().filter(w -> causes.indexOf(w.cause) >= 0).mapToInt(Wait::minutes).sum();
    }

    private int more(int ring) {
        return Math.max(0, kind(rings.get(ring).kind).minutes - kind(rings.get(ring).reference).minutes);
    }

    public int events() {
        int many = 0;
        for (int i = 0; i < rings.size(); i++) {
            many += more(i) > 0 ? 1 : 0;
        }
        return many;
    }

    public boolean notice(int ring) {
        index(ring, rings.size());
        unsupported(more(ring) == 0 || notices.stream().anyMatch(n -> n.ring == ring));
        Notice notice = new Notice(ring, now());
        notices.add(notice);
        return isInTime(notice);
    }

    private boolean isInTime(Notice notice) {
        return notice.at <= rings.get(notice.ring).end + 4320;
    }

    public int claimed() {
        return notices.stream().filter(this::isInTime).mapToInt(n -> more(n.ring)).sum();
    }

    public int count(char kind) {
        argument(kind(kind) != null);
        return (int) rings.stream().filter(ring -> ring.kind == kind).count();
    }

    public float groutShare() {
        if (rings.isEmpty()) {
            throw new ArithmeticException();
        }
        int filled = 0;
        int gaps = 0;
        for (int i = 0; i < rings.size(); i++) {
            filled += filled(i);
            gaps += gap(i);
        }
        return (float) filled / (float) gaps;
    }

    public double meanMinutes() {
        if (rings.isEmpty()) {
            throw new ArithmeticException();
        }
        return (double) rings.stream().mapToInt(Ring::minutes).sum() / (double) rings.size();
    }

    public long checksum() {
        long sum = 7;
        for (int i = 0; i < rings.size(); i++) {
            for (int part : new int[] {rings.get(i).rotation, off(i, false), off(i, true), lost(i)}) {
                sum = sum * 31 + part;
            }
        }
        return sum * 31 + now();
    }

    public boolean isSound() {
        return true;
    }
}
