import java.math.BigInteger;
import java.util.ArrayDeque;
import java.util.ArrayList;
import java.util.Arrays;
import java.util.Deque;
import java.util.List;

/** A second reading of the document, as plain as can be and without regard to speed. */
final class Model {

    static final class TextError extends RuntimeException {
        private static final long serialVersionUID = 1L;
        final int code;
        final int offset;

        TextError(int code, int offset) {
            this.code = code;
            this.offset = offset;
        }
    }

    static final class Car {
        int section;
        int direction;
        long exposure;

        Car(int section, int direction) {
            this.section = section;
            this.direction = direction;
        }
    }

    static final class State {
        int sections;
        int capacity;
        int draft;
        int clock;
        int fire = -1;
        long[] smoke = new long[0];
        Integer[] fans = new Integer[0];
        Integer[] vents = new Integer[0];
        Boolean[] bays = new Boolean[0];
        boolean[] redEast = new boolean[0];
        boolean[] redWest = new boolean[0];
        List<Car> cars = new ArrayList<>();
        List<String> rate = List.of("100");
        long produced;
        long left;
        long removed;

        State copy() {
            State other = new State();
            other.sections = sections;
            other.capacity = capacity;
            other.draft = draft;
            other.clock = clock;
            other.fire = fire;
            other.smoke = smoke.clone();
            other.fans = fans.clone();
            other.vents = vents.clone();
            other.bays = bays.clone();
            other.redEast = redEast.clone();
            other.redWest = redWest.clone();
            for (Car car : cars) {
                Car twin = new Car(car.section, car.direction);
                twin.exposure = car.exposure;
                other.cars.add(twin);
            }
            other.rate = rate;
            other.produced = produced;
            other.left = left;
            other.removed = removed;
            return other;
        }

        int flow() {
            int sum = draft;
            for (Integer fan : fans) {
                sum += fan == null ? 0 : fan;
            }
            return sum > 100 ? 100 : sum < -100 ? -100 : sum;
        }

        int inside() {
            return (int) cars.stream().filter(car -> car.section >= 0).count();
        }

        int carsIn(int section, int direction) {
            return (int) cars.stream().filter(car -> car.section == section && car.direction == direction).count();
        }

        boolean hasRoom(int section, int direction) {
            return carsIn(section, direction) < capacity;
        }

        int rate() {
            if (fire < 0) {
                return 0;
            }
            BigInteger value = new Sum(rate, this).value();
            return value.max(BigInteger.ZERO).min(BigInteger.valueOf(9999)).intValue();
        }

        void tick() {
            int rate = rate();
            int flow = flow();
            long[] after = new long[sections];
            for (int s = 0; s < sections; s++) {
                long rest = smoke[s];
                if (vents[s] != null) {
                    long gone = rest * vents[s] / 100;
                    removed += gone;
                    rest -= gone;
                }
                long moving = rest * Math.abs(flow) / 100;
                after[s] += rest - moving;
                int next = flow > 0 ? s + 1 : s - 1;
                if (next < 0 || next >= sections) {
                    left += moving;
                } else {
                    after[next] += moving;
                }
            }
            smoke = after;
            if (fire >= 0) {
                smoke[fire] += rate;
                produced += rate;
            }
            List<Car> stayed = new ArrayList<>();
            for (int s = sections - 1; s >= 0; s--) {
                drive(s, 1, stayed);
            }
            for (int s = 0; s < sections; s++) {
                drive(s, -1, stayed);
            }
            for (Car car : cars) {
                boolean ahead = fire >= 0 && fire != car.section && fire > car.section == (car.direction == 1);
                if (stayed.contains(car) && Boolean.TRUE.equals(bays[car.section]) && ahead
                        && hasRoom(car.section, -car.direction)) {
                    car.direction = -car.direction;
                }
            }
            for (Car car : cars) {
                car.exposure += car.section >= 0 ? smoke[car.section] : 0;
            }
            clock++;
        }

        private void drive(int section, int direction, List<Car> stayed) {
            for (Car car : cars) {
                if (car.section != section || car.direction != direction) {
                    continue;
                }
                int next = section + direction;
                if (next < 0 || next >= sections) {
                    car.section = -1;
                } else if (next != fire && !(direction == 1 ? redEast : redWest)[next] && hasRoom(next, direction)) {
                    car.section = next;
                } else {
                    stayed.add(car);
                }
            }
        }

        int clearingTime(int limit) {
            State trial = copy();
            for (int ticks = 0; ticks <= limit; ticks++) {
                if (trial.inside() == 0) {
                    return ticks;
                }
                trial.tick();
            }
            return -1;
        }

        private State withBays(int set) {
            State trial = copy();
            for (int s = 0; s < sections; s++) {
                trial.bays[s] = bays[s] == null ? null : Boolean.valueOf((set >> s & 1) == 1);
            }
            return trial;
        }

        long[] bestBays() {
            long best = -1;
            long bestTime = -1;
            for (int set = 0; set < 1 << sections; set++) {
                boolean possible = true;
                for (int s = 0; s < sections; s++) {
                    possible &= (set >> s & 1) == 0 || bays[s] != null;
                }
                int time = possible ? withBays(set).clearingTime(200) : -1;
                if (time < 0) {
                    continue;
                }
                boolean better = best < 0 || time < bestTime
                        || time == bestTime && Long.bitCount(set) < Long.bitCount(best);
                if (better) {
                    best = set;
                    bestTime = time;
                }
            }
            return new long[] {best, bestTime};
        }

        long exposureSum() {
            return cars.stream().mapToLong(car -> car.exposure).sum();
        }

        long exposureWith(int setting, int ticks) {
            State trial = copy();
            for (int s = 0; s < sections; s++) {
                trial.fans[s] = fans[s] == null ? null : Integer.valueOf(setting);
            }
            for (int i = 0; i < ticks; i++) {
                trial.tick();
            }
            return trial.exposureSum() - exposureSum();
        }
    }

    /** Works a rate expression out of its tokens each time anew. */
    static final class Sum {
        private static final BigInteger MOST = BigInteger.valueOf(1000000000);
        private final List<String> tokens;
        private final State state;
        private int at;

        Sum(List<String> tokens, State state) {
            this.tokens = tokens;
            this.state = state;
        }

        private String peek() {
            return at < tokens.size() ? tokens.get(at) : "";
        }

        BigInteger value() {
            BigInteger value = term();
            while (peek().equals("+") || peek().equals("-")) {
                String sign = tokens.get(at++);
                BigInteger other = term();
                value = limited(sign.equals("+") ? value.add(other) : value.subtract(other));
            }
            return value;
        }

        private BigInteger term() {
            BigInteger value = factor();
            while (peek().equals("*") || peek().equals("/")) {
                String sign = tokens.get(at++);
                BigInteger other = factor();
                if (sign.equals("*")) {
                    value = limited(value.multiply(other));
                } else {
                    value = other.signum() == 0 ? BigInteger.ZERO : limited(value.divide(other));
                }
            }
            return value;
        }

        private BigInteger factor() {
            String token = tokens.get(at++);
            switch (token) {
                case "clock":
                    return BigInteger.valueOf(state.clock);
                case "cars":
                    return BigInteger.valueOf(state.inside());
                case "flow":
                    return BigInteger.valueOf(state.flow());
                case "(":
                    BigInteger value = value();
                    at++;
                    return value;
                default:
                    return new BigInteger(token);
            }
        }

        private static BigInteger limited(BigInteger value) {
            return value.max(MOST.negate()).min(MOST);
        }
    }

    /** Splits the whole text first, then reads the tokens. */
    static final class Text {
        private final List<String> tokens = new ArrayList<>();
        private final List<Integer> offsets = new ArrayList<>();
        private final State state = new State();
        private final boolean[] seen = new boolean[3];
        private int at;

        Text(String text) {
            int i = 0;
            while (i < text.length()) {
                if (text.charAt(i) == ' ') {
                    i++;
                    continue;
                }
                int end = i + 1;
                for (String kind : new String[] {"[0-9]", "[a-z]"}) {
                    if (text.substring(i, i + 1).matches(kind)) {
                        while (end < text.length() && text.substring(end, end + 1).matches(kind)) {
                            end++;
                        }
                    }
                }
                tokens.add(text.substring(i, end));
                offsets.add(i);
                i = end;
            }
            tokens.add("");
            offsets.add(text.length());
        }

        private String peek() {
            return tokens.get(at);
        }

        private int offset() {
            return offsets.get(at);
        }

        private TextError error(int code) {
            return new TextError(code, offset());
        }

        private void take(String token) {
            if (!peek().equals(token)) {
                throw error(-2);
            }
            at++;
        }

        private int number(int least, int most) {
            if (!peek().matches("[0-9]+")) {
                throw error(-2);
            }
            BigInteger value = new BigInteger(peek());
            if (value.compareTo(BigInteger.valueOf(least)) < 0 || value.compareTo(BigInteger.valueOf(most)) > 0) {
                throw error(-3);
            }
            at++;
            return value.intValue();
        }

        private int setting(int most) {
            if (peek().equals("-")) {
                at++;
                return -number(0, most);
            }
            return number(0, most);
        }

        private int way() {
            if (!peek().equals("east") && !peek().equals("west")) {
                throw error(-2);
            }
            return tokens.get(at++).equals("east") ? 1 : -1;
        }

        /** A section that has nothing in these rows yet. */
        private int freeSection(Object[] row) {
            int section = number(0, state.sections - 1);
            if (row[section] != null) {
                at--;
                throw error(-3);
            }
            return section;
        }

        State read() {
            take("tunnel");
            state.sections = number(2, 12);
            state.capacity = number(1, 4);
            take(";");
            state.smoke = new long[state.sections];
            state.fans = new Integer[state.sections];
            state.vents = new Integer[state.sections];
            state.bays = new Boolean[state.sections];
            state.redEast = new boolean[state.sections];
            state.redWest = new boolean[state.sections];
            while (!peek().equals("")) {
                statement();
                take(";");
            }
            return state;
        }

        private void once(int which) {
            if (seen[which]) {
                throw error(-2);
            }
            seen[which] = true;
        }

        private void statement() {
            switch (peek()) {
                case "bay":
                    if (Arrays.stream(state.bays).filter(bay -> bay != null).count() == 6) {
                        throw error(-4);
                    }
                    at++;
                    state.bays[freeSection(state.bays)] = true;
                    break;
                case "vent":
                    at++;
                    int vented = freeSection(state.vents);
                    state.vents[vented] = number(1, 100);
                    break;
                case "fan":
                    at++;
                    int blown = freeSection(state.fans);
                    state.fans[blown] = setting(10);
                    break;
                case "car":
                    car();
                    break;
                case "fire":
                    once(0);
                    at++;
                    state.fire = number(0, state.sections - 1);
                    break;
                case "draft":
                    once(1);
                    at++;
                    state.draft = setting(100);
                    break;
                case "red":
                    at++;
                    int section = number(0, state.sections - 1);
                    (way() == 1 ? state.redEast : state.redWest)[section] = true;
                    break;
                case "rate":
                    once(2);
                    at++;
                    int start = at;
                    sum(0);
                    state.rate = tokens.subList(start, at);
                    break;
                default:
                    throw error(-2);
            }
        }

        private void car() {
            if (state.cars.size() == 20) {
                throw error(-4);
            }
            at++;
            int offset = offset();
            int section = number(0, state.sections - 1);
            int way = way();
            if (!state.hasRoom(section, way)) {
                throw new TextError(-3, offset);
            }
            state.cars.add(new Car(section, way));
        }

        private void sum(int depth) {
            factor(depth);
            while (peek().matches("[-+*/]")) {
                at++;
                factor(depth);
            }
        }

        private void factor(int depth) {
            if (peek().equals("(")) {
                if (depth == 4) {
                    throw error(-5);
                }
                at++;
                sum(depth + 1);
                take(")");
            } else if (peek().matches("clock|cars|flow")) {
                at++;
            } else {
                number(0, 9999);
            }
        }
    }

    private State state = new State();
    private final Deque<State> changes = new ArrayDeque<>();
    private String buffer = "";
    private int errorOffset = -1;

    private void change() {
        changes.push(state.copy());
        if (changes.size() > 8) {
            changes.removeLast();
        }
    }

    private void needSection(int section) {
        if (section < 0 || section >= state.sections) {
            throw new IndexOutOfBoundsException();
        }
    }

    private void needCar(int car) {
        if (car < 0 || car >= state.cars.size()) {
            throw new IndexOutOfBoundsException();
        }
    }

    private static void need(boolean right) {
        if (!right) {
            throw new IllegalArgumentException();
        }
    }

    private static void needState(boolean right) {
        if (!right) {
            throw new IllegalStateException();
        }
    }

    int append(int... words) {
        if (buffer.length() + 20 > 800) {
            return -1;
        }
        for (int word : words) {
            for (int shift = 24; shift >= 0; shift -= 8) {
                buffer += (char) (word >> shift & 255);
            }
        }
        return buffer.length();
    }

    int load(int length) {
        need(length >= 0 && length <= buffer.length());
        String text = buffer.substring(0, length);
        buffer = "";
        try {
            State read = new Text(text).read();
            change();
            state = read;
            errorOffset = -1;
            return state.cars.size();
        } catch (TextError e) {
            errorOffset = e.offset;
            return e.code;
        }
    }

    /** The methods without arguments, in the order of the promises. */
    long plain(int which) {
        switch (which) {
            case 0:
                return errorOffset;
            case 1:
                return state.sections;
            case 2:
                return state.cars.size();
            case 3:
                return state.clock;
            case 4:
                return state.flow();
            case 5:
                return state.rate();
            case 6:
                return state.fire;
            case 7:
                return state.inside();
            case 8:
                return state.bestBays()[0];
            case 9:
                return state.bestBays()[1];
            case 10:
                return undo();
            default:
                return checksum();
        }
    }

    long smoke(int section) {
        needSection(section);
        return state.smoke[section];
    }

    long total(int what) {
        need(what >= 0 && what <= 3);
        long inside = Arrays.stream(state.smoke).sum();
        return new long[] {state.produced, inside, state.left, state.removed}[what];
    }

    int fan(int section) {
        needSection(section);
        needState(state.fans[section] != null);
        return state.fans[section];
    }

    int bay(int section) {
        needSection(section);
        return state.bays[section] == null ? -1 : state.bays[section] ? 1 : 0;
    }

    boolean isRed(int section, int direction) {
        needSection(section);
        need(direction == 1 || direction == -1);
        return (direction == 1 ? state.redEast : state.redWest)[section];
    }

    int carSection(int car) {
        needCar(car);
        return state.cars.get(car).section;
    }

    int carDirection(int car) {
        needCar(car);
        return state.cars.get(car).direction;
    }

    long exposure(int car) {
        needCar(car);
        return state.cars.get(car).exposure;
    }

    int carsIn(int section, int direction) {
        needSection(section);
        need(direction == 1 || direction == -1);
        return state.carsIn(section, direction);
    }

    int clearingTime(int limit) {
        need(limit >= 0 && limit <= 200);
        return state.clearingTime(limit);
    }

    long exposureWith(int setting, int ticks) {
        need(setting >= -10 && setting <= 10 && ticks >= 0 && ticks <= 60);
        return state.exposureWith(setting, ticks);
    }

    int bestSetting(int ticks) {
        need(ticks >= 0 && ticks <= 60);
        int best = -10;
        for (int setting = -9; setting <= 10; setting++) {
            long one = state.exposureWith(setting, ticks);
            long other = state.exposureWith(best, ticks);
            if (one < other || one == other && Math.abs(setting) <= Math.abs(best)) {
                best = setting;
            }
        }
        return best;
    }

    int run(int ticks) {
        need(ticks >= 1 && ticks <= 100);
        needState(state.sections > 0 && state.clock + ticks <= 10000);
        change();
        int before = state.inside();
        for (int i = 0; i < ticks; i++) {
            state.tick();
        }
        return before - state.inside();
    }

    int setFan(int section, int setting) {
        needSection(section);
        need(setting >= -10 && setting <= 10);
        needState(state.fans[section] != null);
        change();
        state.fans[section] = setting;
        return state.flow();
    }

    int setFire(int section) {
        if (section != -1) {
            needSection(section);
        }
        change();
        int before = state.fire;
        state.fire = section;
        return before;
    }

    boolean setSignal(int section, int direction, boolean red) {
        needSection(section);
        need(direction == 1 || direction == -1);
        change();
        boolean[] signals = direction == 1 ? state.redEast : state.redWest;
        boolean before = signals[section];
        signals[section] = red;
        return before;
    }

    boolean setBay(int section, boolean open) {
        needSection(section);
        needState(state.bays[section] != null);
        change();
        boolean before = state.bays[section];
        state.bays[section] = open;
        return before;
    }

    private int undo() {
        if (changes.isEmpty()) {
            return -1;
        }
        state = changes.pop();
        return changes.size();
    }

    private long checksum() {
        if (state.sections == 0) {
            return 0;
        }
        List<Long> numbers = new ArrayList<>(List.of((long) state.clock, (long) state.fire));
        for (int s = 0; s < state.sections; s++) {
            numbers.add(smoke(s));
            numbers.add((long) bay(s));
        }
        for (Car car : state.cars) {
            numbers.addAll(List.of((long) car.section, (long) car.direction, car.exposure));
        }
        numbers.add((long) state.flow());
        return numbers.stream().reduce(0L, (sum, number) -> 31 * sum + number);
    }
}
