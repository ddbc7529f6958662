/** One test at least for each promise of the document, in its order, and its examples. */
public final class PromiseTests {
    private static final int[] NO_INDEXES = {-1, 3, 12, 20, 24, 800, Integer.MAX_VALUE, Integer.MIN_VALUE};
    private static final int[] NO_DIRECTIONS = {0, 2, -2, 3, Integer.MAX_VALUE, Integer.MIN_VALUE};

    private static final Check check = new Check("PromiseTests");

    public static void main(String[] args) {
        newObject();
        append();
        load();
        loadAgain();
        loadAndTheBuffer();
        errorOffset();
        counts();
        clock();
        flow();
        rate();
        fireSection();
        smoke();
        total();
        fan();
        bay();
        isRed();
        cars();
        carsIn();
        inside();
        clearingTime();
        bestBays();
        exposureWith();
        bestSetting();
        run();
        setFan();
        setFire();
        setSignal();
        setBay();
        undo();
        undoOfEachChange();
        checksum();
        predictionsChangeNothing();
        exceptionsChangeNothing();
        noTunnel();
        examples();
        check.finish();
    }

    /** Promise 1. */
    private static void newObject() {
        TunnelControlDesk desk = new TunnelControlDesk();
        check.same("sectionCount", desk.sectionCount(), 0);
        check.same("carCount", desk.carCount(), 0);
        check.illegalArgument("load(1) of an empty buffer", () -> desk.load(1));
        check.same("append", desk.append(0, 0, 0, 0, 0), 20);
        check.same("other object", new TunnelControlDesk().append(0, 0, 0, 0, 0), 20);
    }

    /** Promise 2. */
    private static void append() {
        TunnelControlDesk desk = new TunnelControlDesk();
        Check.append(desk, "tunnel 2 1;");
        for (int i = 2; i <= 40; i++) {
            check.same("append", desk.append(0x20202020, 0x20202020, 0x20202020, 0x20202020, 0x20202020), 20 * i);
        }
        check.same("append beyond 800", desk.append(1, 2, 3, 4, 5), -1);
        check.same("append beyond 800", desk.append(1, 2, 3, 4, 5), -1);
        check.illegalArgument("load(801)", () -> desk.load(801));
        check.same("load(800)", desk.load(800), 0);
        check.same("errorOffset", desk.errorOffset(), -1);
        check.same("append after load", desk.append(0, 0, 0, 0, 0), 20);
        check.same("load of other bytes", desk.load(20), -2);
        check.same("errorOffset", desk.errorOffset(), 0);
        // tunnel 2 1;bay 1; and bytes from 128 on.
        check.same("append", desk.append(0x74756e6e, 0x656c2032, 0x20313b62, 0x61792031, 0x3b808182), 20);
        check.same("load(17)", desk.load(17), 0);
        check.same("bay(1)", desk.bay(1), 1);
        desk.append(0x74756e6e, 0x656c2032, 0x20313b62, 0x61792031, 0x3b2020ff);
        check.same("load(20)", desk.load(20), -2);
        check.same("errorOffset", desk.errorOffset(), 19);
    }

    /** Promise 3; SetupTextTests has the grammar and the errors. */
    private static void load() {
        TunnelControlDesk desk = Check.desk("tunnel 3 2;fire 0;fan 0 3;draft 9;rate 7;bay 1;red 2 west;vent 2 5;"
                + "car 1 east;car 0 west;car 0 east;red 1 east;");
        desk.run(5);
        check.same("cars", Check.load(desk, "tunnel 2 1;car 0 east;"), 1);
        check.same("sections", desk.sectionCount(), 2);
        check.same("cars", desk.carCount(), 1);
        check.same("clock", desk.clock(), 0);
        check.same("fire", desk.fireSection(), -1);
        check.same("flow", desk.flow(), 0);
        check.same("car", desk.carSection(0), 0);
        check.same("car", desk.carDirection(0), 1);
        check.same("inside", desk.inside(), 1);
        check.same("exposure", desk.exposure(0), 0);
        check.same("lane", desk.carsIn(0, 1), 1);
        check.same("lane", desk.carsIn(0, -1), 0);
        for (int i = 0; i < 4; i++) {
            check.same("total", desk.total(i), 0);
        }
        for (int i = 0; i < 2; i++) {
            int section = i;
            check.same("smoke", desk.smoke(i), 0);
            check.same("bay", desk.bay(i), -1);
            check.no("red", desk.isRed(i, 1));
            check.no("red", desk.isRed(i, -1));
            check.illegalState("fan", () -> desk.fan(section));
        }
        desk.setFire(1);
        check.same("usual rate", desk.rate(), 100);
    }

    /** Nothing of a text lasts into the next one. */
    private static void loadAgain() {
        String text = "tunnel 12 1;bay 0;bay 1;bay 2;bay 3;bay 4;bay 5;fire 1;draft -4;rate 3*cars;vent 1 2;fan 1 1;"
                + "car 3 west;red 4 east;";
        TunnelControlDesk desk = Check.desk(text);
        long before = desk.checksum();
        desk.run(9);
        check.same("the same text again", Check.load(desk, text), 1);
        check.same("checksum", desk.checksum(), before);
        check.same("another text", Check.load(desk, "tunnel 12 1;car 3 west;fire 2;rate 70-cars;"), 1);
        check.same("rate", desk.rate(), 69);
        check.same("bay", desk.bay(0), -1);
        check.no("red", desk.isRed(4, 1));
        check.same("an error late in the text", Check.load(desk, text + "x"), -2);
        check.same("the same text again", Check.load(desk, text), 1);
        check.same("checksum", desk.checksum(), before);
    }

    private static void loadAndTheBuffer() {
        TunnelControlDesk desk = new TunnelControlDesk();
        Check.append(desk, "tunnel 2 1;car 0 east;");
        check.illegalArgument("load(-1)", () -> desk.load(-1));
        check.illegalArgument("load(MIN)", () -> desk.load(Integer.MIN_VALUE));
        check.illegalArgument("load(41)", () -> desk.load(41));
        check.illegalArgument("load(MAX)", () -> desk.load(Integer.MAX_VALUE));
        check.same("the buffer stays", desk.append(0, 0, 0, 0, 0), 60);
        check.same("load of a part", desk.load(11), 0);
        check.illegalArgument("the buffer is empty", () -> desk.load(1));
        Check.append(desk, "tunnel 3 1;car 0 east;x");
        check.same("load with an error", desk.load(23), -2);
        check.same("the tunnel stays", desk.sectionCount(), 2);
        check.same("the cars stay", desk.carCount(), 0);
        check.illegalArgument("the buffer is empty", () -> desk.load(1));
        check.same("empty text", desk.load(0), -2);
        check.same("its offset", desk.errorOffset(), 0);
        check.same("the error is no change", desk.undo(), 0);
        check.same("no more changes", desk.undo(), -1);
        // Numbers and words end where the text ends.
        Check.append(desk, "tunnel 2 11;");
        check.same("cut number", desk.load(10), -2);
        check.same("its offset", desk.errorOffset(), 10);
    }

    /** Promise 4. */
    private static void errorOffset() {
        TunnelControlDesk desk = new TunnelControlDesk();
        check.same("without a load", desk.errorOffset(), -1);
        Check.load(desk, "tunnel 2 9;");
        check.same("after an error", desk.errorOffset(), 9);
        check.illegalArgument("load(1)", () -> desk.load(1));
        check.same("after a load that threw", desk.errorOffset(), 9);
        Check.load(desk, "tunnel 2 1;");
        check.same("after a good load", desk.errorOffset(), -1);
        Check.load(desk, "tunnel 2 1");
        check.same("at the end", desk.errorOffset(), 10);
        desk.undo();
        check.same("after undo", desk.errorOffset(), 10);
    }

    /** Promises 5 and 6. */
    private static void counts() {
        TunnelControlDesk desk = Check.desk("tunnel 12 1;car 11 east;car 0 west;car 5 east;");
        check.same("sectionCount", desk.sectionCount(), 12);
        check.same("carCount", desk.carCount(), 3);
        desk.run(1);
        check.same("carCount, two have left", desk.carCount(), 3);
        desk.undo();
        desk.undo();
        check.same("sectionCount, undone", desk.sectionCount(), 0);
        check.same("carCount, undone", desk.carCount(), 0);
        check.same("sectionCount", Check.desk("tunnel 2 1;").sectionCount(), 2);
        check.same("carCount", Check.desk("tunnel 2 1;").carCount(), 0);
    }

    /** Promise 7. */
    private static void clock() {
        TunnelControlDesk desk = Check.desk("tunnel 2 1;");
        check.same("clock", desk.clock(), 0);
        desk.run(3);
        desk.run(100);
        check.same("clock", desk.clock(), 103);
        desk.setFire(0);
        check.same("clock", desk.clock(), 103);
    }

    /** Promise 8. */
    private static void flow() {
        check.same("flow", Check.desk("tunnel 3 1;draft -20;fan 0 7;fan 2 -3;").flow(), -16);
        check.same("flow above", Check.desk("tunnel 3 1;draft 95;fan 0 7;fan 2 -1;").flow(), 100);
        check.same("flow below", Check.desk("tunnel 3 1;draft -95;fan 0 -7;fan 2 1;").flow(), -100);
        check.same("flow at the limit", Check.desk("tunnel 3 1;draft 95;fan 0 5;").flow(), 100);
        // Only the sum is limited.
        check.same("flow of all", Check.desk("tunnel 3 1;draft 100;fan 0 10;fan 2 -10;").flow(), 100);
    }

    /** Promise 9; SetupTextTests has the values of expressions. */
    private static void rate() {
        TunnelControlDesk desk = Check.desk("tunnel 3 1;rate clock*3+cars+flow;fan 0 0;car 2 east;");
        check.same("without a fire", desk.rate(), 0);
        desk.setFire(1);
        check.same("rate", desk.rate(), 1);
        desk.setFan(0, 10);
        check.same("rate with flow", desk.rate(), 11);
        desk.run(2);
        check.same("rate with clock", desk.rate(), 16);
        desk.setFire(-1);
        check.same("without a fire", desk.rate(), 0);
        check.same("above", Check.desk("tunnel 2 1;rate 5000*2;fire 0;").rate(), 9999);
        check.same("below", Check.desk("tunnel 2 1;rate 0-1;fire 0;").rate(), 0);
        check.same("usual", Check.desk("tunnel 2 1;fire 0;").rate(), 100);
    }

    /** Promise 10. */
    private static void fireSection() {
        TunnelControlDesk desk = Check.desk("tunnel 3 1;fire 2;");
        check.same("fireSection", desk.fireSection(), 2);
        desk.setFire(0);
        check.same("fireSection", desk.fireSection(), 0);
        desk.setFire(-1);
        check.same("fireSection", desk.fireSection(), -1);
        check.same("fireSection", Check.desk("tunnel 3 1;").fireSection(), -1);
    }

    /** Promise 11; TickTests has the movement. */
    private static void smoke() {
        TunnelControlDesk desk = Check.desk("tunnel 3 1;fire 2;rate 70;draft -10;");
        desk.run(2);
        check.same("smoke(0)", desk.smoke(0), 0);
        check.same("smoke(1)", desk.smoke(1), 7);
        check.same("smoke(2)", desk.smoke(2), 133);
        for (int section : NO_INDEXES) {
            check.outOfBounds("smoke(" + section + ")", () -> desk.smoke(section));
        }
    }

    /** Promise 12. */
    private static void total() {
        TunnelControlDesk desk = Check.desk("tunnel 2 1;fire 1;rate 70;draft 10;vent 1 10;");
        desk.run(2);
        check.same("total(0)", desk.total(0), 140);
        check.same("total(1)", desk.total(1), 127);
        check.same("total(2)", desk.total(2), 6);
        check.same("total(3)", desk.total(3), 7);
        for (int what : new int[] {-1, 4, 5, Integer.MAX_VALUE, Integer.MIN_VALUE}) {
            check.illegalArgument("total(" + what + ")", () -> desk.total(what));
        }
    }

    /** Promise 13. */
    private static void fan() {
        TunnelControlDesk desk = Check.desk("tunnel 3 1;fan 0 -10;fan 2 0;");
        check.same("fan(0)", desk.fan(0), -10);
        check.same("fan(2)", desk.fan(2), 0);
        check.illegalState("fan(1)", () -> desk.fan(1));
        for (int section : NO_INDEXES) {
            check.outOfBounds("fan(" + section + ")", () -> desk.fan(section));
        }
    }

    /** Promise 14. */
    private static void bay() {
        TunnelControlDesk desk = Check.desk("tunnel 3 1;bay 0;bay 2;");
        desk.setBay(2, false);
        check.same("bay(0)", desk.bay(0), 1);
        check.same("bay(1)", desk.bay(1), -1);
        check.same("bay(2)", desk.bay(2), 0);
        for (int section : NO_INDEXES) {
            check.outOfBounds("bay(" + section + ")", () -> desk.bay(section));
        }
    }

    /** Promise 15. */
    private static void isRed() {
        TunnelControlDesk desk = Check.desk("tunnel 3 1;red 1 west;red 2 east;");
        check.no("0 east", desk.isRed(0, 1));
        check.no("0 west", desk.isRed(0, -1));
        check.no("1 east", desk.isRed(1, 1));
        check.yes("1 west", desk.isRed(1, -1));
        check.yes("2 east", desk.isRed(2, 1));
        check.no("2 west", desk.isRed(2, -1));
        for (int direction : NO_DIRECTIONS) {
            check.illegalArgument("isRed(0, " + direction + ")", () -> desk.isRed(0, direction));
            check.outOfBounds("isRed(3, " + direction + ")", () -> desk.isRed(3, direction));
        }
        for (int section : NO_INDEXES) {
            check.outOfBounds("isRed(" + section + ", 1)", () -> desk.isRed(section, 1));
        }
    }

    /** Promises 16 to 18. */
    private static void cars() {
        TunnelControlDesk desk = Check.desk("tunnel 3 1;car 1 east;car 0 west;car 1 west;fire 1;rate 5;");
        check.same("carSection(0)", desk.carSection(0), 1);
        check.same("carSection(1)", desk.carSection(1), 0);
        check.same("carDirection(0)", desk.carDirection(0), 1);
        check.same("carDirection(2)", desk.carDirection(2), -1);
        desk.setSignal(0, -1, true);
        desk.run(3);
        check.same("carSection(0)", desk.carSection(0), -1);
        check.same("carDirection(0)", desk.carDirection(0), 1);
        check.same("carSection(1)", desk.carSection(1), -1);
        check.same("carDirection(1)", desk.carDirection(1), -1);
        check.same("carSection(2)", desk.carSection(2), 1);
        check.same("exposure(0)", desk.exposure(0), 0);
        check.same("exposure(2)", desk.exposure(2), 30);
        desk.setSignal(0, -1, false);
        desk.run(3);
        check.same("exposure(2) stays", desk.exposure(2), 30);
        check.same("carSection(2)", desk.carSection(2), -1);
        for (int car : NO_INDEXES) {
            check.outOfBounds("carSection(" + car + ")", () -> desk.carSection(car));
            check.outOfBounds("carDirection(" + car + ")", () -> desk.carDirection(car));
            check.outOfBounds("exposure(" + car + ")", () -> desk.exposure(car));
        }
        TunnelControlDesk turned = Check.desk("tunnel 3 1;car 0 east;bay 0;fire 1;");
        turned.run(2);
        check.same("left", turned.carSection(0), -1);
        check.same("the last direction", turned.carDirection(0), -1);
    }

    /** Promise 19. */
    private static void carsIn() {
        TunnelControlDesk desk = Check.desk("tunnel 3 3;car 1 east;car 1 west;car 1 east;car 1 east;bay 1;fire 2;");
        check.same("carsIn(1, 1)", desk.carsIn(1, 1), 3);
        check.same("carsIn(1, -1)", desk.carsIn(1, -1), 1);
        check.same("carsIn(0, -1)", desk.carsIn(0, -1), 0);
        desk.run(1);
        check.same("carsIn(1, 1)", desk.carsIn(1, 1), 0);
        check.same("carsIn(1, -1)", desk.carsIn(1, -1), 3);
        check.same("carsIn(0, -1)", desk.carsIn(0, -1), 1);
        desk.run(1);
        check.same("carsIn(0, -1)", desk.carsIn(0, -1), 3);
        for (int direction : NO_DIRECTIONS) {
            check.illegalArgument("carsIn(0, " + direction + ")", () -> desk.carsIn(0, direction));
            check.outOfBounds("carsIn(-1, " + direction + ")", () -> desk.carsIn(-1, direction));
        }
        for (int section : NO_INDEXES) {
            check.outOfBounds("carsIn(" + section + ", -1)", () -> desk.carsIn(section, -1));
        }
    }

    /** Promise 20. */
    private static void inside() {
        TunnelControlDesk desk = Check.desk("tunnel 3 1;car 0 east;car 1 east;car 2 west;");
        check.same("inside", desk.inside(), 3);
        desk.run(2);
        check.same("inside", desk.inside(), 2);
        desk.run(1);
        check.same("inside", desk.inside(), 0);
        desk.undo();
        check.same("inside", desk.inside(), 2);
    }

    /** Promise 21. */
    private static void clearingTime() {
        TunnelControlDesk desk = Check.desk("tunnel 4 1;car 0 east;car 3 east;");
        check.same("clearingTime(4)", desk.clearingTime(4), 4);
        check.same("clearingTime(3)", desk.clearingTime(3), -1);
        check.same("clearingTime(0)", desk.clearingTime(0), -1);
        check.same("clearingTime(200)", desk.clearingTime(200), 4);
        desk.run(3);
        check.same("clearingTime(1)", desk.clearingTime(1), 1);
        desk.run(1);
        check.same("clearingTime(0)", desk.clearingTime(0), 0);
        for (int limit : new int[] {-1, 201, Integer.MAX_VALUE, Integer.MIN_VALUE}) {
            check.illegalArgument("clearingTime(" + limit + ")", () -> desk.clearingTime(limit));
        }
        check.same("red", Check.desk("tunnel 4 1;car 0 east;red 3 east;").clearingTime(200), -1);
        // A car may still turn after all others have stood still for good.
        check.same("late turn", Check.desk("tunnel 6 1;car 1 east;bay 3;fire 4;car 5 east;").clearingTime(200), 7);
        TunnelControlDesk late = Check.desk("tunnel 2 1;car 0 east;red 1 east;");
        for (int i = 0; i < 100; i++) {
            late.run(100);
        }
        late.setSignal(1, 1, false);
        check.same("beyond the clock's limit", late.clearingTime(200), 2);
    }

    /** Promises 22 and 23. */
    private static void bestBays() {
        bestIs("tunnel 5 2;bay 1;bay 3;car 0 east;car 2 east;fire 4;", 8, 8);
        bestIs("tunnel 5 2;bay 1;bay 3;car 0 east;car 2 east;fire 4;car 1 west;", 8, 8);
        // All sets serve as well: the one with the fewest bays.
        bestIs("tunnel 3 1;bay 0;bay 1;bay 2;car 0 east;", 0, 3);
        bestIs("tunnel 3 1;bay 0;bay 1;", 0, 0);
        // The car turns where it has to stop.
        bestIs("tunnel 6 1;bay 0;bay 1;bay 3;fire 4;car 0 east;red 1 east;", 1, 2);
        bestIs("tunnel 6 1;bay 0;bay 1;bay 3;fire 4;car 0 east;", 8, 8);
        // No bay serves.
        bestIs("tunnel 3 1;bay 0;fire 2;car 1 east;car 0 east;car 0 west;red 0 west;", -1, -1);
        bestIs("tunnel 3 1;fire 2;car 1 east;", -1, -1);
        bestIs("tunnel 12 1;bay 2;bay 9;fire 6;car 2 east;car 9 west;red 3 east;red 8 west;", 516, 4);
        bestIs("tunnel 12 1;bay 0;bay 11;fire 6;car 0 east;car 11 west;red 1 east;red 10 west;", 2049, 2);
        // One bay would do, but two are faster.
        bestIs("tunnel 5 1;bay 0;bay 1;fire 2;car 0 east;car 1 east;", 3, 3);
        String queue = "tunnel 12 1;fire 4;bay 1;bay 2;bay 3;car 3 east;car 2 east;car 1 east;";
        bestIs(queue, 14, 5);
        // The last car takes 8 ticks anyhow, and so do the bays 1 and 3, 2 and 3, and all three:
        // the fewest bays and the smallest number.
        bestIs(queue + "car 4 east;", 10, 8);
        closedBaysCountToo();
    }

    private static void bestIs(String text, int set, int time) {
        TunnelControlDesk desk = Check.desk(text);
        check.same("bestBays of " + text, desk.bestBays(), set);
        check.same("bestBayTime of " + text, desk.bestBayTime(), time);
        check.same("bestBayTime again of " + text, desk.bestBayTime(), time);
    }

    private static void closedBaysCountToo() {
        TunnelControlDesk desk = Check.desk("tunnel 5 2;bay 1;bay 3;car 0 east;car 2 east;fire 4;");
        desk.setBay(1, false);
        desk.setBay(3, false);
        check.same("clearingTime", desk.clearingTime(200), -1);
        check.same("bestBays", desk.bestBays(), 8);
        check.same("bestBayTime", desk.bestBayTime(), 8);
        check.same("bay(3) stays", desk.bay(3), 0);
        desk.setSignal(3, 1, true);
        check.same("bestBays with a red signal", desk.bestBays(), -1);
        check.same("bestBayTime with a red signal", desk.bestBayTime(), -1);
    }

    /** Promise 24. */
    private static void exposureWith() {
        TunnelControlDesk desk = Check.desk("tunnel 3 1;fan 0 0;car 0 east;fire 2;rate 100;red 1 east;draft -10;");
        check.same("(0, 3)", desk.exposureWith(0, 3), 1);
        check.same("(1, 3)", desk.exposureWith(1, 3), 0);
        check.same("(0, 0)", desk.exposureWith(0, 0), 0);
        check.same("(10, 60)", desk.exposureWith(10, 60), 0);
        desk.run(100);
        check.same("the increase alone", desk.exposureWith(10, 1), desk.smoke(0));
        for (int wrong : new int[] {-11, 11, Integer.MAX_VALUE, Integer.MIN_VALUE}) {
            check.illegalArgument("(" + wrong + ", 3)", () -> desk.exposureWith(wrong, 3));
        }
        for (int wrong : new int[] {-1, 61, Integer.MAX_VALUE, Integer.MIN_VALUE}) {
            check.illegalArgument("(0, " + wrong + ")", () -> desk.exposureWith(0, wrong));
        }
        TunnelControlDesk two = Check.desk("tunnel 3 2;fan 0 5;fan 2 -5;fire 1;rate 100;car 1 east;car 1 east;"
                + "red 2 east;");
        check.same("two cars", two.exposureWith(0, 2), 600);
        check.same("two fans", two.exposureWith(10, 2), 560);
        check.same("two fans", two.exposureWith(-10, 2), 560);
        check.same("no fans", Check.desk("tunnel 2 1;fire 0;red 1 east;car 0 east;").exposureWith(10, 3), 600);
        check.same("the rate sees the flow",
                Check.desk("tunnel 2 1;fire 0;fan 0 0;rate flow;red 1 east;car 0 east;").exposureWith(7, 1), 7);
    }

    /** Promise 25. */
    private static void bestSetting() {
        TunnelControlDesk desk = Check.desk("tunnel 3 1;fan 0 0;car 0 east;fire 2;rate 100;red 1 east;draft -10;");
        check.same("bestSetting(3)", desk.bestSetting(3), 1);
        check.same("bestSetting(0)", desk.bestSetting(0), 0);
        for (int wrong : new int[] {-1, 61, Integer.MAX_VALUE, Integer.MIN_VALUE}) {
            check.illegalArgument("bestSetting(" + wrong + ")", () -> desk.bestSetting(wrong));
        }
        // Either way the car loses the same smoke: the positive one of two opposite settings.
        String middle = "tunnel 3 1;fan 0 3;car 1 east;fire 1;rate 100;red 2 east;";
        check.same("opposite ones", Check.desk(middle).bestSetting(5), 10);
        check.same("to the west", Check.desk(middle + "draft -5;").bestSetting(5), -10);
        check.same("to the east", Check.desk(middle + "draft 5;").bestSetting(60), 10);
        check.same("no fan", Check.desk("tunnel 2 1;fire 0;red 1 east;car 0 east;").bestSetting(9), 0);
        // From -4 on downwards the rate is 0.
        check.same("smallest absolute value",
                Check.desk("tunnel 2 1;fire 0;fan 0 0;rate 4+flow;red 1 east;car 0 east;").bestSetting(1), -4);
    }

    /** Promise 26; TickTests has the steps. */
    private static void run() {
        TunnelControlDesk desk = Check.desk("tunnel 3 1;car 0 east;car 1 east;car 2 west;");
        check.same("run(1)", desk.run(1), 0);
        check.same("run(1)", desk.run(1), 1);
        check.same("run(100)", desk.run(100), 2);
        check.same("run(100)", desk.run(100), 0);
        for (int wrong : new int[] {0, -1, 101, Integer.MAX_VALUE, Integer.MIN_VALUE}) {
            check.illegalArgument("run(" + wrong + ")", () -> desk.run(wrong));
        }
        for (int i = 0; i < 97; i++) {
            desk.run(100);
        }
        check.same("clock", desk.clock(), 9902);
        check.illegalState("run(99)", () -> desk.run(99));
        check.same("clock stays", desk.clock(), 9902);
        desk.run(97);
        check.illegalState("run(2)", () -> desk.run(2));
        desk.run(1);
        check.same("clock", desk.clock(), 10000);
        check.illegalState("run(1)", () -> desk.run(1));
        check.illegalArgument("run(101)", () -> desk.run(101));
        TunnelControlDesk none = new TunnelControlDesk();
        check.illegalArgument("run(0) without a tunnel", () -> none.run(0));
        check.illegalState("run(1) without a tunnel", () -> none.run(1));
    }

    /** Promise 27. */
    private static void setFan() {
        TunnelControlDesk desk = Check.desk("tunnel 3 1;fan 0 1;fan 2 2;draft -99;");
        check.same("setFan(0, -10)", desk.setFan(0, -10), -100);
        check.same("fan(0)", desk.fan(0), -10);
        check.same("setFan(2, 10)", desk.setFan(2, 10), -99);
        check.same("setFan(0, 10)", desk.setFan(0, 10), -79);
        check.same("flow", desk.flow(), -79);
        for (int wrong : new int[] {-11, 11, Integer.MAX_VALUE, Integer.MIN_VALUE}) {
            check.illegalArgument("setFan(0, " + wrong + ")", () -> desk.setFan(0, wrong));
            check.illegalArgument("setFan(1, " + wrong + ")", () -> desk.setFan(1, wrong));
            check.outOfBounds("setFan(3, " + wrong + ")", () -> desk.setFan(3, wrong));
        }
        check.illegalState("setFan(1, 0)", () -> desk.setFan(1, 0));
        for (int section : NO_INDEXES) {
            check.outOfBounds("setFan(" + section + ", 0)", () -> desk.setFan(section, 0));
        }
    }

    /** Promise 28. */
    private static void setFire() {
        TunnelControlDesk desk = Check.desk("tunnel 3 1;rate 10;");
        check.same("setFire(2)", desk.setFire(2), -1);
        check.same("setFire(0)", desk.setFire(0), 2);
        check.same("setFire(0)", desk.setFire(0), 0);
        desk.run(1);
        check.same("smoke(0)", desk.smoke(0), 10);
        check.same("setFire(-1)", desk.setFire(-1), 0);
        check.same("setFire(-1)", desk.setFire(-1), -1);
        desk.run(1);
        check.same("smoke(0)", desk.smoke(0), 10);
        for (int wrong : new int[] {-2, 3, 12, Integer.MAX_VALUE, Integer.MIN_VALUE}) {
            check.outOfBounds("setFire(" + wrong + ")", () -> desk.setFire(wrong));
        }
    }

    /** Promise 29. */
    private static void setSignal() {
        TunnelControlDesk desk = Check.desk("tunnel 3 1;red 1 east;");
        check.yes("setSignal(1, 1, true)", desk.setSignal(1, 1, true));
        check.yes("setSignal(1, 1, false)", desk.setSignal(1, 1, false));
        check.no("setSignal(1, 1, false)", desk.setSignal(1, 1, false));
        check.no("setSignal(1, -1, true)", desk.setSignal(1, -1, true));
        check.no("isRed(1, 1)", desk.isRed(1, 1));
        check.yes("isRed(1, -1)", desk.isRed(1, -1));
        check.no("isRed(0, -1)", desk.isRed(0, -1));
        for (int direction : NO_DIRECTIONS) {
            check.illegalArgument("setSignal(0, " + direction + ")", () -> desk.setSignal(0, direction, true));
            check.outOfBounds("setSignal(3, " + direction + ")", () -> desk.setSignal(3, direction, true));
        }
        for (int section : NO_INDEXES) {
            check.outOfBounds("setSignal(" + section + ", 1)", () -> desk.setSignal(section, 1, true));
        }
    }

    /** Promise 30. */
    private static void setBay() {
        TunnelControlDesk desk = Check.desk("tunnel 3 1;bay 0;bay 2;");
        check.yes("setBay(0, false)", desk.setBay(0, false));
        check.no("setBay(0, false)", desk.setBay(0, false));
        check.same("bay(0)", desk.bay(0), 0);
        check.same("bay(2)", desk.bay(2), 1);
        check.no("setBay(0, true)", desk.setBay(0, true));
        check.yes("setBay(0, true)", desk.setBay(0, true));
        check.same("bay(0)", desk.bay(0), 1);
        check.illegalState("setBay(1, true)", () -> desk.setBay(1, true));
        check.illegalState("setBay(1, false)", () -> desk.setBay(1, false));
        for (int section : NO_INDEXES) {
            check.outOfBounds("setBay(" + section + ")", () -> desk.setBay(section, false));
        }
    }

    /** Promise 31: the latest 8 changes, the latest one first. */
    private static void undo() {
        TunnelControlDesk desk = new TunnelControlDesk();
        check.same("nothing to undo", desk.undo(), -1);
        Check.load(desk, "tunnel 12 1;");
        check.same("undo the load", desk.undo(), 0);
        check.same("no tunnel", desk.sectionCount(), 0);
        Check.load(desk, "tunnel 12 1;");
        for (int i = 0; i < 11; i++) {
            desk.setFire(i);
        }
        for (int i = 7; i >= 0; i--) {
            check.same("undo", desk.undo(), i);
            check.same("fire", desk.fireSection(), i + 2);
        }
        check.same("no more", desk.undo(), -1);
        check.same("fire stays", desk.fireSection(), 2);
        // Equal values count, and an undone change gives way to a new one.
        desk.setFire(2);
        desk.setFire(2);
        check.same("undo", desk.undo(), 1);
        desk.setFire(5);
        desk.setFire(6);
        check.same("undo", desk.undo(), 2);
        check.same("fire", desk.fireSection(), 5);
        check.same("undo", desk.undo(), 1);
        check.same("fire", desk.fireSection(), 2);
        check.same("undo", desk.undo(), 0);
        check.same("undo", desk.undo(), -1);
        undoLeavesTheBuffer();
    }

    private static void undoLeavesTheBuffer() {
        TunnelControlDesk desk = Check.desk("tunnel 3 1;");
        Check.append(desk, "tunnel 4 1;");
        desk.undo();
        check.same("buffer", desk.append(0, 0, 0, 0, 0), 40);
        check.same("load", desk.load(11), 0);
        check.same("sections", desk.sectionCount(), 4);
        desk.undo();
        check.same("sections", desk.sectionCount(), 0);
        check.same("buffer stays empty", desk.append(0, 0, 0, 0, 0), 20);
    }

    private static void undoOfEachChange() {
        TunnelControlDesk desk = Check.desk("tunnel 3 2;fan 0 1;bay 1;red 2 west;fire 2;rate 500+clock-flow;draft -30;"
                + "vent 1 9;car 0 east;car 1 west;car 1 east;red 0 west;");
        desk.run(4);
        String before = Check.state(desk);
        check.yes("smoke left", desk.total(2) > 0);
        check.yes("smoke removed", desk.total(3) > 0);
        check.yes("exposure", desk.exposure(0) > 0);
        desk.run(7);
        check.no("run changes", Check.state(desk).equals(before));
        desk.undo();
        check.yes("run undone", Check.state(desk).equals(before));
        desk.setFan(0, -5);
        desk.setBay(1, false);
        desk.setSignal(2, -1, false);
        desk.setSignal(0, 1, true);
        desk.setFire(-1);
        Check.load(desk, "tunnel 2 1;draft -3;vent 0 1;fan 1 2;car 0 west;rate 3;");
        desk.run(2);
        check.no("changed", Check.state(desk).equals(before));
        for (int i = 7; i > 0; i--) {
            check.same("undo", desk.undo(), i);
        }
        check.yes("all undone", Check.state(desk).equals(before));
        check.same("one is left", desk.undo(), 0);
        check.same("clock", desk.clock(), 0);
        check.same("total", desk.total(0), 0);
    }

    /** Promise 32. */
    private static void checksum() {
        check.same("without a tunnel", new TunnelControlDesk().checksum(), 0);
        TunnelControlDesk desk = Check.desk("tunnel 2 1;draft 5;bay 0;fire 1;rate 40;car 1 west;red 0 west;");
        desk.run(3);
        // The smoke of section 1: 40, 78, 115; the exposure of the car is their sum.
        long[] numbers = {3, 1, 0, 1, 115, -1, 1, -1, 233, 5};
        long sum = 0;
        for (long number : numbers) {
            sum = 31 * sum + number;
        }
        check.same("checksum", desk.checksum(), sum);
        check.same("no cars", Check.desk("tunnel 2 1;").checksum(),
                ((((0 * 31 - 1) * 31 + 0) * 31 - 1) * 31 + 0) * 31 * 31 - 31);
        StringBuilder text = new StringBuilder("tunnel 12 1;fire 3;draft -7;");
        for (int i = 0; i < 12; i++) {
            text.append("car ").append(i).append(" east;");
        }
        TunnelControlDesk many = Check.desk(text.toString());
        many.run(5);
        check.same("wrapping around", many.checksum(), sumOf(many));
    }

    private static long sumOf(TunnelControlDesk desk) {
        long sum = 31L * desk.clock() + desk.fireSection();
        for (int i = 0; i < desk.sectionCount(); i++) {
            sum = 31 * (31 * sum + desk.smoke(i)) + desk.bay(i);
        }
        for (int i = 0; i < desk.carCount(); i++) {
            sum = 31 * (31 * (31 * sum + desk.carSection(i)) + desk.carDirection(i)) + desk.exposure(i);
        }
        return 31 * sum + desk.flow();
    }

    private static void predictionsChangeNothing() {
        TunnelControlDesk desk = Check.desk("tunnel 5 2;bay 1;bay 3;car 0 east;car 2 east;fire 4;fan 0 1;draft -30;");
        desk.run(2);
        String before = Check.state(desk);
        desk.clearingTime(200);
        desk.bestBays();
        desk.bestBayTime();
        desk.exposureWith(-10, 60);
        desk.bestSetting(60);
        check.yes("the same", Check.state(desk).equals(before));
        check.same("no changes", desk.undo(), 1);
    }

    private static void exceptionsChangeNothing() {
        TunnelControlDesk desk = Check.desk("tunnel 3 1;bay 1;car 0 east;fire 2;fan 0 1;");
        String before = Check.state(desk);
        check.illegalArgument("load", () -> desk.load(1));
        check.illegalArgument("run", () -> desk.run(0));
        check.illegalArgument("setFan", () -> desk.setFan(0, 11));
        check.illegalState("setFan", () -> desk.setFan(1, 1));
        check.outOfBounds("setFire", () -> desk.setFire(3));
        check.illegalArgument("setSignal", () -> desk.setSignal(0, 0, true));
        check.illegalState("setBay", () -> desk.setBay(0, true));
        check.yes("the same", Check.state(desk).equals(before));
        check.same("no changes", desk.undo(), 0);
    }

    private static void noTunnel() {
        TunnelControlDesk desk = new TunnelControlDesk();
        check.same("clock", desk.clock(), 0);
        check.same("flow", desk.flow(), 0);
        check.same("rate", desk.rate(), 0);
        check.same("fireSection", desk.fireSection(), -1);
        check.same("inside", desk.inside(), 0);
        check.same("clearingTime", desk.clearingTime(0), 0);
        check.same("clearingTime", desk.clearingTime(200), 0);
        check.same("bestBays", desk.bestBays(), 0);
        check.same("bestBayTime", desk.bestBayTime(), 0);
        check.same("exposureWith", desk.exposureWith(10, 60), 0);
        check.same("bestSetting", desk.bestSetting(60), 0);
        check.same("setFire", desk.setFire(-1), -1);
        check.same("undo", desk.undo(), 0);
        for (int i = 0; i < 4; i++) {
            check.same("total", desk.total(i), 0);
        }
        check.outOfBounds("smoke", () -> desk.smoke(0));
        check.outOfBounds("carSection", () -> desk.carSection(0));
        check.outOfBounds("setFire", () -> desk.setFire(0));
        check.outOfBounds("setFan", () -> desk.setFan(0, 99));
        check.outOfBounds("setSignal", () -> desk.setSignal(0, 0, true));
        check.outOfBounds("setBay", () -> desk.setBay(0, true));
    }

    /** The four examples of the document. */
    private static void examples() {
        TunnelControlDesk one = new TunnelControlDesk();
        check.same("1", one.append(1953853038, 1701584949, 540162914, 1635328049, 996303225), 20);
        check.same("1", one.append(540228451, 1634869296, 543514995, 1950049121, 1914712608), 40);
        check.same("1", one.append(1700885364, 996567410, 1696609339, 538976288, 538976288), 60);
        check.same("1", one.load(52), 2);
        check.same("1", one.clearingTime(200), 8);
        check.same("1", one.bestBays(), 8);
        check.same("1", one.run(7), 1);
        check.same("1", one.carSection(0), 0);
        check.same("1", one.smoke(4), 700);
        TunnelControlDesk two = new TunnelControlDesk();
        check.same("2", two.append(1953853038, 1701584947, 540097379, 1634869296, 543514995), 20);
        check.same("2", two.append(1950049121, 1914712096, 1700885364, 991961120, 538976288), 40);
        check.same("2", two.load(33), -3);
        check.same("2", two.errorOffset(), 26);
        check.same("2", two.sectionCount(), 0);
        TunnelControlDesk three = new TunnelControlDesk();
        check.same("3", three.append(1953853038, 1701584947, 540097382, 1634607152, 540031843), 20);
        check.same("3", three.append(1634869296, 543514995, 1950049897, 1919230002, 997351796), 40);
        check.same("3", three.append(1696608560, 809202277, 1679831328, 1700885364, 996438625), 60);
        check.same("3", three.append(1718886445, 825244448, 538976288, 538976288, 538976288), 80);
        check.same("3", three.load(67), 1);
        check.same("3", three.exposureWith(0, 3), 1);
        check.same("3", three.exposureWith(1, 3), 0);
        check.same("3", three.bestSetting(3), 1);
        check.illegalState("3", () -> three.setFan(1, 3));
        TunnelControlDesk four = new TunnelControlDesk();
        check.same("4", four.flow(), 0);
        check.same("4", four.bestBays(), 0);
        check.illegalState("4", () -> four.run(1));
    }
}
