/** A simulation of the control desk of a road tunnel. */
public final class TunnelControlDesk {

    public static final int SYNTAX_ERROR = -2;
    public static final int OUT_OF_RANGE = -3;
    public static final int TOO_MANY = -4;
    public static final int TOO_DEEP = -5;

    private static final int EAST = 1;
    private static final int WEST = -1;
    private static final int NONE = -1;

    private static final int BUFFER_LIMIT = 800;
    private static final int APPEND_BYTES = 20;
    private static final int SECTION_LIMIT = 12;
    private static final int CAPACITY_LIMIT = 4;
    private static final int CAR_LIMIT = 20;
    private static final int BAY_LIMIT = 6;
    private static final int FAN_LIMIT = 10;
    private static final int FLOW_LIMIT = 100;
    private static final int RATE_LIMIT = 9999;
    private static final int PERCENT = 100;
    private static final int NESTING_LIMIT = 4;
    private static final int UNDO_LIMIT = 8;
    private static final int CLOCK_LIMIT = 10000;
    private static final int RUN_LIMIT = 100;
    private static final int CLEARING_LIMIT = 200;
    private static final int FORECAST_LIMIT = 60;
    private static final int CHECKSUM_FACTOR = 31;

    private final SetupReader reader;
    private final History history;
    private final Tunnel current;
    // Predictions run here, so that no call has to make a tunnel of its own.
    private final Tunnel trial;
    private int latestErrorOffset;

    public TunnelControlDesk() {
        Plan noTunnel = new Plan();
        reader = new SetupReader(noTunnel);
        history = new History(noTunnel);
        current = new Tunnel(noTunnel);
        trial = new Tunnel(noTunnel);
        latestErrorOffset = NONE;
    }

    public int append(int w0, int w1, int w2, int w3, int w4) {
        Input input = reader.input;
        if (input.size > BUFFER_LIMIT - APPEND_BYTES) {
            return -1;
        }
        input.putWord(w0);
        input.putWord(w1);
        input.putWord(w2);
        input.putWord(w3);
        input.putWord(w4);
        return input.size;
    }

    public int load(int length) throws IllegalArgumentException {
        if (length < 0 || length > reader.input.size) {
            throw new IllegalArgumentException("length is not within the input buffer");
        }
        boolean readable = reader.readSetup(length);
        reader.input.size = 0;
        if (!readable) {
            latestErrorOffset = reader.errorOffset;
            return reader.errorCode;
        }
        latestErrorOffset = NONE;
        history.save(current);
        current.copyFrom(reader.tunnel);
        return current.plan.cars;
    }

    public int errorOffset() {
        return latestErrorOffset;
    }

    public int sectionCount() {
        return current.plan.sections;
    }

    public int carCount() {
        return current.plan.cars;
    }

    public int clock() {
        return current.clock;
    }

    public int flow() {
        return current.airFlow();
    }

    public int rate() {
        return current.fireRate();
    }

    public int fireSection() {
        return current.fire;
    }

    public int smoke(int section) throws IndexOutOfBoundsException {
        requireSection(section);
        return (int) current.smoke[section];
    }

    public long total(int what) throws IllegalArgumentException {
        switch (what) {
            case 0:
                return current.smokeInside() + current.smokeLeft + current.smokeRemoved;
            case 1:
                return current.smokeInside();
            case 2:
                return current.smokeLeft;
            case 3:
                return current.smokeRemoved;
            default:
                throw new IllegalArgumentException("what is not 0 to 3");
        }
    }

    public int fan(int section) throws IndexOutOfBoundsException, IllegalStateException {
        requireSection(section);
        requireFan(section);
        return current.fan[section];
    }

    public int bay(int section) throws IndexOutOfBoundsException {
        requireSection(section);
        return current.bay[section];
    }

    public boolean isRed(int section, int direction)
            throws IndexOutOfBoundsException, IllegalArgumentException {
        requireSection(section);
        requireDirection(direction);
        return current.red[laneIndex(section, direction)];
    }

    public int carSection(int car) throws IndexOutOfBoundsException {
        requireCar(car);
        return current.carSection[car];
    }

    public int carDirection(int car) throws IndexOutOfBoundsException {
        requireCar(car);
        return current.carDirection[car];
    }

    public long exposure(int car) throws IndexOutOfBoundsException {
        requireCar(car);
        return current.exposure[car];
    }

    public int carsIn(int section, int direction)
            throws IndexOutOfBoundsException, IllegalArgumentException {
        requireSection(section);
        requireDirection(direction);
        return current.laneCars[laneIndex(section, direction)];
    }

    public int inside() {
        return current.inside;
    }

    public int clearingTime(int limit) throws IllegalArgumentException {
        if (limit < 0 || limit > CLEARING_LIMIT) {
            throw new IllegalArgumentException("limit is not 0 to 200");
        }
        trial.copyFrom(current);
        return trial.ticksUntilClear(limit);
    }

    public int bestBays() {
        int bays = current.baySet();
        int best = NONE;
        int bestTime = CLEARING_LIMIT;
        for (int set = 0; set <= bays; set++) {
            if ((set & ~bays) != 0) {
                continue;
            }
            trial.copyFrom(current);
            trial.openExactly(set);
            // A set that takes longer than the best one so far answers -1 here, too.
            int time = trial.ticksUntilClear(bestTime);
            if (time >= 0 && (best < 0 || time < bestTime
                    || Integer.bitCount(set) < Integer.bitCount(best))) {
                best = set;
                bestTime = time;
            }
        }
        return best;
    }

    public int bestBayTime() {
        int best = bestBays();
        if (best < 0) {
            return -1;
        }
        trial.copyFrom(current);
        trial.openExactly(best);
        return trial.ticksUntilClear(CLEARING_LIMIT);
    }

    public long exposureWith(int setting, int ticks) throws IllegalArgumentException {
        if (setting < -FAN_LIMIT || setting > FAN_LIMIT) {
            throw new IllegalArgumentException("setting is not -10 to 10");
        }
        if (ticks < 0 || ticks > FORECAST_LIMIT) {
            throw new IllegalArgumentException("ticks is not 0 to 60");
        }
        trial.copyFrom(current);
        trial.setAllFans(setting);
        return trial.exposureIncrease(ticks);
    }

    public int bestSetting(int ticks) throws IllegalArgumentException {
        if (ticks < 0 || ticks > FORECAST_LIMIT) {
            throw new IllegalArgumentException("ticks is not 0 to 60");
        }
        int best = 0;
        long least = exposureWith(0, ticks);
        for (int size = 1; size <= FAN_LIMIT; size++) {
            long forward = exposureWith(size, ticks);
            if (forward < least) {
                least = forward;
                best = size;
            }
            long backward = exposureWith(-size, ticks);
            if (backward < least) {
                least = backward;
                best = -size;
            }
        }
        return best;
    }

    public int run(int ticks) throws IllegalArgumentException, IllegalStateException {
        if (ticks < 1 || ticks > RUN_LIMIT) {
            throw new IllegalArgumentException("ticks is not 1 to 100");
        }
        if (current.plan.sections == 0) {
            throw new IllegalStateException("there is no tunnel");
        }
        if (current.clock + ticks > CLOCK_LIMIT) {
            throw new IllegalStateException("the clock would exceed 10000");
        }
        history.save(current);
        int insideBefore = current.inside;
        for (int tick = 0; tick < ticks; tick++) {
            current.tick();
        }
        return insideBefore - current.inside;
    }

    public int setFan(int section, int setting)
            throws IndexOutOfBoundsException, IllegalArgumentException, IllegalStateException {
        requireSection(section);
        if (setting < -FAN_LIMIT || setting > FAN_LIMIT) {
            throw new IllegalArgumentException("setting is not -10 to 10");
        }
        requireFan(section);
        history.save(current);
        current.fan[section] = setting;
        return current.airFlow();
    }

    public int setFire(int section) throws IndexOutOfBoundsException {
        if (section != NONE) {
            requireSection(section);
        }
        history.save(current);
        int previous = current.fire;
        current.fire = section;
        return previous;
    }

    public boolean setSignal(int section, int direction, boolean red)
            throws IndexOutOfBoundsException, IllegalArgumentException {
        requireSection(section);
        requireDirection(direction);
        history.save(current);
        int signal = laneIndex(section, direction);
        boolean previous = current.red[signal];
        current.red[signal] = red;
        return previous;
    }

    public boolean setBay(int section, boolean open)
            throws IndexOutOfBoundsException, IllegalStateException {
        requireSection(section);
        if (current.bay[section] == Tunnel.NO_BAY) {
            throw new IllegalStateException("the section has no bay");
        }
        history.save(current);
        boolean previous = current.bay[section] == Tunnel.OPEN_BAY;
        current.bay[section] = open ? Tunnel.OPEN_BAY : Tunnel.CLOSED_BAY;
        return previous;
    }

    public int undo() {
        if (history.count == 0) {
            return -1;
        }
        history.restore(current);
        return history.count;
    }

    public long checksum() {
        if (current.plan.sections == 0) {
            return 0;
        }
        long sum = current.clock;
        sum = CHECKSUM_FACTOR * sum + current.fire;
        for (int section = 0; section < current.plan.sections; section++) {
            sum = CHECKSUM_FACTOR * sum + current.smoke[section];
            sum = CHECKSUM_FACTOR * sum + current.bay[section];
        }
        for (int car = 0; car < current.plan.cars; car++) {
            sum = CHECKSUM_FACTOR * sum + current.carSection[car];
            sum = CHECKSUM_FACTOR * sum + current.carDirection[car];
            sum = CHECKSUM_FACTOR * sum + current.exposure[car];
        }
        return CHECKSUM_FACTOR * sum + current.airFlow();
    }

    private void requireSection(int section) {
        if (section < 0 || section >= current.plan.sections) {
            throw new IndexOutOfBoundsException("there is no such section");
        }
    }

    private void requireCar(int car) {
        if (car < 0 || car >= current.plan.cars) {
            throw new IndexOutOfBoundsException("there is no such car");
        }
    }

    private void requireFan(int section) {
        if (!current.plan.hasFan[section]) {
            throw new IllegalStateException("the section has no fan");
        }
    }

    private static void requireDirection(int direction) {
        if (direction != EAST && direction != WEST) {
            throw new IllegalArgumentException("direction is not 1 or -1");
        }
    }

    private static int laneIndex(int section, int direction) {
        return direction == EAST ? 2 * section + 1 : 2 * section;
    }

    /** What a setup text settles for good; it has no sections where there is no tunnel. */
    private static final class Plan {
        private static final int USUAL_RATE = 100;

        int sections;
        int capacity;
        int draft;
        int cars;
        final int[] vent = new int[SECTION_LIMIT];
        final boolean[] hasFan = new boolean[SECTION_LIMIT];
        RateProgram rateProgram = new RateProgram(new int[] {USUAL_RATE});
    }

    /** A rate expression in postfix order: numbers, and the negative codes below. */
    private static final class RateProgram {
        static final int CLOCK = -1;
        static final int CARS = -2;
        static final int FLOW = -3;
        static final int ADD = -4;
        static final int SUBTRACT = -5;
        static final int MULTIPLY = -6;
        static final int DIVIDE = -7;

        private static final long RESULT_LIMIT = 1000000000L;
        // Each level of parentheses keeps at most a sum and a product waiting for a factor.
        private static final int STACK_SIZE = 2 * (NESTING_LIMIT + 1) + 1;

        private final int[] codes;
        private final long[] stack = new long[STACK_SIZE];

        RateProgram(int[] codes) {
            this.codes = codes;
        }

        long valueAt(int clock, int cars, int flow) {
            int top = 0;
            for (int i = 0; i < codes.length; i++) {
                int code = codes[i];
                if (code > ADD) {
                    if (top < STACK_SIZE) {
                        stack[top] = operand(code, clock, cars, flow);
                        top++;
                    }
                } else if (top >= 2) {
                    top--;
                    stack[top - 1] = result(code, stack[top - 1], stack[top]);
                }
            }
            return stack[0];
        }

        private static long operand(int code, int clock, int cars, int flow) {
            switch (code) {
                case CLOCK:
                    return clock;
                case CARS:
                    return cars;
                case FLOW:
                    return flow;
                default:
                    return code;
            }
        }

        private static long result(int code, long left, long right) {
            long value;
            switch (code) {
                case ADD:
                    value = left + right;
                    break;
                case SUBTRACT:
                    value = left - right;
                    break;
                case MULTIPLY:
                    value = left * right;
                    break;
                default:
                    value = right == 0 ? 0 : left / right;
                    break;
            }
            return Math.max(-RESULT_LIMIT, Math.min(RESULT_LIMIT, value));
        }
    }

    /** The tunnel as it stands at one moment. */
    private static final class Tunnel {
        static final int NO_BAY = -1;
        static final int CLOSED_BAY = 0;
        static final int OPEN_BAY = 1;

        Plan plan;
        int clock;
        int fire = NONE;
        int inside;
        long smokeLeft;
        long smokeRemoved;
        final long[] smoke = new long[SECTION_LIMIT];
        final int[] fan = new int[SECTION_LIMIT];
        final int[] bay = new int[SECTION_LIMIT];
        final boolean[] red = new boolean[2 * SECTION_LIMIT];
        final int[] laneCars = new int[2 * SECTION_LIMIT];
        final int[] carSection = new int[CAR_LIMIT];
        final int[] carDirection = new int[CAR_LIMIT];
        final long[] exposure = new long[CAR_LIMIT];

        Tunnel(Plan plan) {
            this.plan = plan;
        }

        /** Lays out an empty tunnel, in which no section has a fan or a bay yet. */
        void clear(Plan newPlan) {
            plan = newPlan;
            clock = 0;
            fire = NONE;
            inside = 0;
            smokeLeft = 0;
            smokeRemoved = 0;
            for (int section = 0; section < SECTION_LIMIT; section++) {
                smoke[section] = 0;
                fan[section] = 0;
                bay[section] = NO_BAY;
            }
            for (int lane = 0; lane < 2 * SECTION_LIMIT; lane++) {
                red[lane] = false;
                laneCars[lane] = 0;
            }
            for (int car = 0; car < CAR_LIMIT; car++) {
                exposure[car] = 0;
            }
        }

        void copyFrom(Tunnel other) {
            plan = other.plan;
            clock = other.clock;
            fire = other.fire;
            inside = other.inside;
            smokeLeft = other.smokeLeft;
            smokeRemoved = other.smokeRemoved;
            System.arraycopy(other.smoke, 0, smoke, 0, SECTION_LIMIT);
            System.arraycopy(other.fan, 0, fan, 0, SECTION_LIMIT);
            System.arraycopy(other.bay, 0, bay, 0, SECTION_LIMIT);
            System.arraycopy(other.laneCars, 0, laneCars, 0, 2 * SECTION_LIMIT);
            System.arraycopy(other.carSection, 0, carSection, 0, CAR_LIMIT);
            System.arraycopy(other.carDirection, 0, carDirection, 0, CAR_LIMIT);
            System.arraycopy(other.exposure, 0, exposure, 0, CAR_LIMIT);
            for (int lane = 0; lane < 2 * SECTION_LIMIT; lane++) {
                red[lane] = other.red[lane];
            }
        }

        boolean hasRoom(int section, int direction) {
            return laneCars[laneIndex(section, direction)] < plan.capacity;
        }

        void addCar(int section, int direction) {
            carSection[plan.cars] = section;
            carDirection[plan.cars] = direction;
            laneCars[laneIndex(section, direction)]++;
            plan.cars++;
            inside++;
        }

        int airFlow() {
            int sum = plan.draft;
            for (int section = 0; section < plan.sections; section++) {
                sum += fan[section];
            }
            return Math.max(-FLOW_LIMIT, Math.min(FLOW_LIMIT, sum));
        }

        int fireRate() {
            if (fire < 0) {
                return 0;
            }
            long value = plan.rateProgram.valueAt(clock, inside, airFlow());
            return (int) Math.max(0, Math.min(RATE_LIMIT, value));
        }

        long smokeInside() {
            long sum = 0;
            for (int section = 0; section < plan.sections; section++) {
                sum += smoke[section];
            }
            return sum;
        }

        void tick() {
            // The rate is that of the beginning of the tick, before any car leaves.
            int rate = fireRate();
            moveSmoke(airFlow());
            if (fire >= 0) {
                smoke[fire] += rate;
            }
            moveCars();
            exposeCars();
            clock++;
        }

        private void moveSmoke(int flow) {
            long arriving = 0;
            for (int i = 0; i < plan.sections; i++) {
                // With the air, so that each section passes on only what it held before.
                int section = flow > 0 ? i : plan.sections - 1 - i;
                long vented = smoke[section] * plan.vent[section] / PERCENT;
                long rest = smoke[section] - vented;
                long moving = rest * Math.abs(flow) / PERCENT;
                smoke[section] = rest - moving + arriving;
                smokeRemoved += vented;
                arriving = moving;
            }
            smokeLeft += arriving;
        }

        /** Drives and turns the cars of one tick; answers whether any car did either. */
        private boolean moveCars() {
            int moved = driveLanes(EAST);
            moved |= driveLanes(WEST);
            boolean turned = turnCars(moved);
            return moved != 0 || turned;
        }

        /** Answers the set of the cars that moved: bit c for car c. */
        private int driveLanes(int direction) {
            int moved = 0;
            for (int i = 0; i < plan.sections; i++) {
                // The cars ahead go first, so that no car is treated twice.
                int section = direction == EAST ? plan.sections - 1 - i : i;
                if (laneCars[laneIndex(section, direction)] == 0) {
                    continue;
                }
                for (int car = 0; car < plan.cars; car++) {
                    if (carSection[car] == section && carDirection[car] == direction
                            && driveCar(car, section, direction)) {
                        moved |= 1 << car;
                    }
                }
            }
            return moved;
        }

        private boolean driveCar(int car, int from, int direction) {
            int to = from + direction;
            if (to < 0 || to >= plan.sections) {
                carSection[car] = NONE;
                inside--;
            } else {
                int lane = laneIndex(to, direction);
                if (to == fire || red[lane] || laneCars[lane] >= plan.capacity) {
                    return false;
                }
                carSection[car] = to;
                laneCars[lane]++;
            }
            laneCars[laneIndex(from, direction)]--;
            return true;
        }

        private boolean turnCars(int moved) {
            boolean turned = false;
            for (int car = 0; car < plan.cars; car++) {
                int section = carSection[car];
                int direction = carDirection[car];
                if (section >= 0 && (moved >> car & 1) == 0 && bay[section] == OPEN_BAY
                        && isFireAhead(section, direction) && hasRoom(section, -direction)) {
                    carDirection[car] = -direction;
                    laneCars[laneIndex(section, direction)]--;
                    laneCars[laneIndex(section, -direction)]++;
                    turned = true;
                }
            }
            return turned;
        }

        private boolean isFireAhead(int section, int direction) {
            return fire >= 0 && (direction == EAST ? fire > section : fire < section);
        }

        private void exposeCars() {
            for (int car = 0; car < plan.cars; car++) {
                if (carSection[car] >= 0) {
                    exposure[car] += smoke[carSection[car]];
                }
            }
        }

        /** Moves the cars alone: neither smoke nor the clock makes a difference to them. */
        int ticksUntilClear(int limit) {
            for (int ticks = 0; ticks <= limit; ticks++) {
                if (inside == 0) {
                    return ticks;
                }
                if (!moveCars()) {
                    // Cars that all stand still in one tick do so in every later one.
                    return -1;
                }
            }
            return -1;
        }

        int baySet() {
            int set = 0;
            for (int section = 0; section < plan.sections; section++) {
                if (bay[section] != NO_BAY) {
                    set |= 1 << section;
                }
            }
            return set;
        }

        void openExactly(int set) {
            for (int section = 0; section < plan.sections; section++) {
                if (bay[section] != NO_BAY) {
                    bay[section] = (set >> section & 1) == 1 ? OPEN_BAY : CLOSED_BAY;
                }
            }
        }

        void setAllFans(int setting) {
            for (int section = 0; section < plan.sections; section++) {
                if (plan.hasFan[section]) {
                    fan[section] = setting;
                }
            }
        }

        long exposureIncrease(int ticks) {
            long before = exposureSum();
            // An empty tunnel exposes nobody, so the rest of the ticks may be left out.
            for (int tick = 0; tick < ticks && inside > 0; tick++) {
                tick();
            }
            return exposureSum() - before;
        }

        private long exposureSum() {
            long sum = 0;
            for (int car = 0; car < plan.cars; car++) {
                sum += exposure[car];
            }
            return sum;
        }
    }

    /** The tunnels before the latest changes, in a ring. */
    private static final class History {
        int count;
        private int next;
        private final Tunnel[] saved = new Tunnel[UNDO_LIMIT];

        History(Plan noTunnel) {
            for (int i = 0; i < UNDO_LIMIT; i++) {
                saved[i] = new Tunnel(noTunnel);
            }
        }

        void save(Tunnel tunnel) {
            saved[next].copyFrom(tunnel);
            next = (next + 1) % UNDO_LIMIT;
            count = Math.min(count + 1, UNDO_LIMIT);
        }

        void restore(Tunnel tunnel) {
            next = (next + UNDO_LIMIT - 1) % UNDO_LIMIT;
            count--;
            tunnel.copyFrom(saved[next]);
        }
    }

    /** The input buffer, and the tokens of the text in it, one at a time. */
    private static final class Input {
        // Beside these, a kind is the byte of a sign; so they are no bytes.
        static final int NUMBER = 256;
        static final int WORD = 257;
        static final int END = 258;

        private static final int VALUE_LIMIT = 100000;

        int size;
        int kind;
        int start;
        int value;
        private int next;
        private int length;
        private final byte[] bytes = new byte[BUFFER_LIMIT];

        void putWord(int word) {
            for (int shift = 24; shift >= 0 && size < BUFFER_LIMIT; shift -= 8) {
                bytes[size] = (byte) (word >>> shift);
                size++;
            }
        }

        void begin(int textLength) {
            length = textLength;
            next = 0;
            advance();
        }

        void advance() {
            while (next < length && bytes[next] == ' ') {
                next++;
            }
            start = next;
            if (next >= length) {
                kind = END;
            } else if (bytes[next] >= '0' && bytes[next] <= '9') {
                kind = NUMBER;
                value = 0;
                while (next < length && bytes[next] >= '0' && bytes[next] <= '9') {
                    // A value beyond the limit is out of any range and grows no more.
                    value = value > VALUE_LIMIT ? value : 10 * value + bytes[next] - '0';
                    next++;
                }
            } else if (bytes[next] >= 'a' && bytes[next] <= 'z') {
                kind = WORD;
                while (next < length && bytes[next] >= 'a' && bytes[next] <= 'z') {
                    next++;
                }
            } else {
                kind = bytes[next];
                next++;
            }
        }

        boolean isWord(String word) {
            if (kind != WORD || next - start != word.length()) {
                return false;
            }
            for (int i = 0; i < word.length(); i++) {
                if (bytes[start + i] != word.charAt(i)) {
                    return false;
                }
            }
            return true;
        }
    }

    /** Reads a setup text from left to right, so that the first error found is the first one. */
    private static final class SetupReader {
        final Input input = new Input();
        final Tunnel tunnel;
        int errorCode;
        int errorOffset;
        private int number;
        private int numberOffset;
        private int way;
        private int bays;
        private boolean fireRead;
        private boolean draftRead;
        private boolean rateRead;
        private int codeCount;
        private final int[] codes = new int[BUFFER_LIMIT];

        SetupReader(Plan noTunnel) {
            tunnel = new Tunnel(noTunnel);
        }

        /** Answers whether the text has no error; the tunnel is the one that it describes then. */
        boolean readSetup(int length) {
            tunnel.clear(new Plan());
            bays = 0;
            fireRead = false;
            draftRead = false;
            rateRead = false;
            input.begin(length);
            if (!readTunnel() || !readSign(';')) {
                return false;
            }
            // Each statement takes a byte at least.
            for (int i = 0; i < BUFFER_LIMIT && input.kind != Input.END; i++) {
                if (!readStatement() || !readSign(';')) {
                    return false;
                }
            }
            return true;
        }

        private boolean readTunnel() {
            if (!input.isWord("tunnel")) {
                return fail(SYNTAX_ERROR, input.start);
            }
            input.advance();
            if (!readNumber(2, SECTION_LIMIT)) {
                return false;
            }
            tunnel.plan.sections = number;
            if (!readNumber(1, CAPACITY_LIMIT)) {
                return false;
            }
            tunnel.plan.capacity = number;
            return true;
        }

        private boolean readStatement() {
            if (input.isWord("bay")) {
                return readBay();
            }
            if (input.isWord("vent")) {
                return readVent();
            }
            if (input.isWord("fan")) {
                return readFan();
            }
            if (input.isWord("car")) {
                return readCar();
            }
            if (input.isWord("fire")) {
                return readFire();
            }
            if (input.isWord("draft")) {
                return readDraft();
            }
            if (input.isWord("red")) {
                return readRed();
            }
            if (input.isWord("rate")) {
                return beginRate() && readSum(0) && endRate();
            }
            return fail(SYNTAX_ERROR, input.start);
        }

        private boolean readBay() {
            if (bays >= BAY_LIMIT) {
                return fail(TOO_MANY, input.start);
            }
            input.advance();
            if (!readSection()) {
                return false;
            }
            if (tunnel.bay[number] != Tunnel.NO_BAY) {
                return fail(OUT_OF_RANGE, numberOffset);
            }
            tunnel.bay[number] = Tunnel.OPEN_BAY;
            bays++;
            return true;
        }

        private boolean readVent() {
            input.advance();
            if (!readSection()) {
                return false;
            }
            int section = number;
            if (tunnel.plan.vent[section] != 0) {
                return fail(OUT_OF_RANGE, numberOffset);
            }
            if (!readNumber(1, PERCENT)) {
                return false;
            }
            tunnel.plan.vent[section] = number;
            return true;
        }

        private boolean readFan() {
            input.advance();
            if (!readSection()) {
                return false;
            }
            int section = number;
            if (tunnel.plan.hasFan[section]) {
                return fail(OUT_OF_RANGE, numberOffset);
            }
            if (!readSetting(FAN_LIMIT)) {
                return false;
            }
            tunnel.plan.hasFan[section] = true;
            tunnel.fan[section] = number;
            return true;
        }

        private boolean readCar() {
            if (tunnel.plan.cars >= CAR_LIMIT) {
                return fail(TOO_MANY, input.start);
            }
            input.advance();
            if (!readSection() || !readWay()) {
                return false;
            }
            if (!tunnel.hasRoom(number, way)) {
                return fail(OUT_OF_RANGE, numberOffset);
            }
            tunnel.addCar(number, way);
            return true;
        }

        private boolean readFire() {
            if (fireRead) {
                return fail(SYNTAX_ERROR, input.start);
            }
            fireRead = true;
            input.advance();
            if (!readSection()) {
                return false;
            }
            tunnel.fire = number;
            return true;
        }

        private boolean readDraft() {
            if (draftRead) {
                return fail(SYNTAX_ERROR, input.start);
            }
            draftRead = true;
            input.advance();
            if (!readSetting(FLOW_LIMIT)) {
                return false;
            }
            tunnel.plan.draft = number;
            return true;
        }

        private boolean readRed() {
            input.advance();
            if (!readSection() || !readWay()) {
                return false;
            }
            tunnel.red[laneIndex(number, way)] = true;
            return true;
        }

        private boolean beginRate() {
            if (rateRead) {
                return fail(SYNTAX_ERROR, input.start);
            }
            rateRead = true;
            input.advance();
            codeCount = 0;
            return true;
        }

        private boolean endRate() {
            int[] program = new int[codeCount];
            System.arraycopy(codes, 0, program, 0, codeCount);
            tunnel.plan.rateProgram = new RateProgram(program);
            return true;
        }

        private boolean readSum(int depth) {
            if (!readTerm(depth)) {
                return false;
            }
            for (int i = 0; i < BUFFER_LIMIT && (input.kind == '+' || input.kind == '-'); i++) {
                int operation = input.kind == '+' ? RateProgram.ADD : RateProgram.SUBTRACT;
                input.advance();
                if (!readTerm(depth)) {
                    return false;
                }
                putCode(operation);
            }
            return true;
        }

        private boolean readTerm(int depth) {
            if (!readFactor(depth)) {
                return false;
            }
            for (int i = 0; i < BUFFER_LIMIT && (input.kind == '*' || input.kind == '/'); i++) {
                int operation = input.kind == '*' ? RateProgram.MULTIPLY : RateProgram.DIVIDE;
                input.advance();
                if (!readFactor(depth)) {
                    return false;
                }
                putCode(operation);
            }
            return true;
        }

        private boolean readFactor(int depth) {
            if (input.kind == '(') {
                if (depth >= NESTING_LIMIT) {
                    return fail(TOO_DEEP, input.start);
                }
                input.advance();
                return readSum(depth + 1) && readSign(')');
            }
            if (input.kind == Input.NUMBER) {
                if (input.value > RATE_LIMIT) {
                    return fail(OUT_OF_RANGE, input.start);
                }
                putCode(input.value);
            } else if (input.isWord("clock")) {
                putCode(RateProgram.CLOCK);
            } else if (input.isWord("cars")) {
                putCode(RateProgram.CARS);
            } else if (input.isWord("flow")) {
                putCode(RateProgram.FLOW);
            } else {
                return fail(SYNTAX_ERROR, input.start);
            }
            input.advance();
            return true;
        }

        private void putCode(int code) {
            if (codeCount < BUFFER_LIMIT) {
                codes[codeCount] = code;
                codeCount++;
            }
        }

        private boolean readSection() {
            return readNumber(0, tunnel.plan.sections - 1);
        }

        private boolean readSetting(int limit) {
            boolean negative = input.kind == '-';
            if (negative) {
                input.advance();
            }
            if (!readNumber(0, limit)) {
                return false;
            }
            number = negative ? -number : number;
            return true;
        }

        private boolean readNumber(int least, int most) {
            if (input.kind != Input.NUMBER) {
                return fail(SYNTAX_ERROR, input.start);
            }
            if (input.value < least || input.value > most) {
                return fail(OUT_OF_RANGE, input.start);
            }
            number = input.value;
            numberOffset = input.start;
            input.advance();
            return true;
        }

        private boolean readWay() {
            if (input.isWord("east")) {
                way = EAST;
            } else if (input.isWord("west")) {
                way = WEST;
            } else {
                return fail(SYNTAX_ERROR, input.start);
            }
            input.advance();
            return true;
        }

        private boolean readSign(int sign) {
            if (input.kind != sign) {
                return fail(SYNTAX_ERROR, input.start);
            }
            input.advance();
            return true;
        }

        private boolean fail(int code, int offset) {
            errorCode = code;
            errorOffset = offset;
            return false;
        }
    }
}
