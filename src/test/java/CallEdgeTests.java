import java.math.BigInteger;
import java.util.function.IntSupplier;

/** Each sentence of the promises, and of the section "Changes", that names a boundary, in the document's order. */
public final class CallEdgeTests {
    private static final int LEAST = Integer.MIN_VALUE;
    private static final int MOST = Integer.MAX_VALUE;
    private static final int BLANK = 0x20202020;

    private static final Check check = new Check("CallEdgeTests");

    public static void main(String[] args) {
        newObject();
        appendUpTo800();
        appendOrder();
        loadLengths();
        loadStartsAnew();
        loadAfterTheFullestTunnel();
        loadEmptiesTheBuffer();
        loadErrorsLeaveTheRest();
        errorOffsets();
        sectionIndexes();
        carIndexes();
        directions();
        totals();
        totalOfTheParts();
        clearingLimits();
        clearingTimes();
        clearingWithoutCars();
        noSetOfBays();
        noBays();
        fewestAndSmallestBays();
        restOfTheSettingsStay();
        exposureLimits();
        exposureForecasts();
        bestSettingLimits();
        bestSettingTies();
        runLimits();
        runUpTo10000();
        carsThatLeave();
        fanLimits();
        fires();
        equalValuesAreChanges();
        whatIsAChange();
        eightChanges();
        changesAfterUndo();
        undoWithoutChanges();
        undoToNoTunnel();
        undoInTheFullestTunnel();
        checksumOfNoTunnel();
        checksumWrapsAround();
        callsUpTo512();
        check.finish();
    }

    private static TunnelControlDesk fullTunnel() {
        StringBuilder text = new StringBuilder("tunnel 12 1;fire 6;rate 9999;draft -3;");
        for (int i = 0; i < 12; i++) {
            text.append("fan ").append(i).append(i % 2 == 0 ? " 1;" : " -1;").append(i % 2 == 1 ? "bay " + i + ";" : "");
            text.append(i < 10 ? "car " + i + " east;" : "").append(i > 1 ? "car " + i + " west;" : "");
        }
        return Check.desk(text.toString());
    }

    /** All that a text can have: 12 sections, each with a fan, a vent and two red signals, 6 bays and 20 cars. */
    private static String fullestText() {
        StringBuilder text = new StringBuilder("tunnel 12 1;fire 0;rate 9999;draft 9;");
        for (int i = 0; i < 12; i++) {
            text.append("fan ").append(i).append(" 1;vent ").append(i).append(" 1;").append(i > 5 ? "bay " + i + ";" : "");
            text.append("red ").append(i).append(" east;red ").append(i).append(" west;");
            text.append(i > 1 ? "car " + i + " west;car " + (i - 1) + " east;" : "");
        }
        return text.toString();
    }

    /** Promise 1: "Creates an object without a tunnel and with an empty input buffer." */
    private static void newObject() {
        TunnelControlDesk desk = new TunnelControlDesk();
        check.same("sectionCount", desk.sectionCount(), 0);
        check.same("carCount", desk.carCount(), 0);
        check.same("clock", desk.clock(), 0);
        check.same("flow", desk.flow(), 0);
        check.same("rate", desk.rate(), 0);
        check.same("fireSection", desk.fireSection(), -1);
        check.same("inside", desk.inside(), 0);
        check.same("errorOffset", desk.errorOffset(), -1);
        check.same("checksum", desk.checksum(), 0);
        check.same("undo", desk.undo(), -1);
        check.illegalArgument("load(1)", () -> desk.load(1));
        check.same("append", desk.append(BLANK, BLANK, BLANK, BLANK, BLANK), 20);
    }

    /** Promise 2: "-1 if it would exceed 800 bytes, and the buffer is unchanged then." */
    private static void appendUpTo800() {
        TunnelControlDesk desk = new TunnelControlDesk();
        for (int length = 20; length < 800; length += 20) {
            check.same("append", desk.append(BLANK, BLANK, BLANK, BLANK, BLANK), length);
        }
        // " tunnel 4 2;fire 3; " fills the buffer.
        check.same("append of the last bytes", desk.append(0x2074756e, 0x6e656c20, 0x3420323b, 0x66697265, 0x20333b20), 800);
        check.same("one byte more is too many", desk.append(0, 0, 0, 0, 0), -1);
        check.same("again", desk.append(0, 0, 0, 0, 0), -1);
        check.illegalArgument("the length is as it was", () -> desk.load(801));
        check.same("the bytes are as they were", desk.load(800), 0);
        check.same("fire", desk.fireSection(), 3);
        check.same("room again", desk.append(BLANK, BLANK, BLANK, BLANK, BLANK), 20);
    }

    /** "Appends 20 bytes to the input buffer: the 4 bytes of each argument, the most significant byte first." */
    private static void appendOrder() {
        int[] words = {0x74756e6e, 0x656c2032, 0x20313b20, BLANK, BLANK};
        for (int at = 0; at < 20; at++) {
            int[] changed = words.clone();
            // A byte of 255 in each place, where the other bytes are those of "tunnel 2 1;".
            changed[at / 4] |= 0xff << 24 - 8 * (at % 4);
            TunnelControlDesk desk = new TunnelControlDesk();
            desk.append(changed[0], changed[1], changed[2], changed[3], changed[4]);
            check.same("byte 255 at " + at, desk.load(20), -2);
            check.same("its offset", desk.errorOffset(), at < 6 ? 0 : at);
        }
        TunnelControlDesk desk = new TunnelControlDesk();
        desk.append(words[0], words[1], words[2], words[3], words[4]);
        check.same("unchanged", desk.load(20), 0);
    }

    /** Promise 3: "if length is negative or greater than the length of the buffer". */
    private static void loadLengths() {
        TunnelControlDesk desk = new TunnelControlDesk();
        Check.append(desk, "tunnel 2 1;");
        for (int length : new int[] {-1, -20, LEAST, 21, 40, 801, MOST}) {
            check.illegalArgument("load(" + length + ")", () -> desk.load(length));
        }
        check.same("the buffer is unchanged", desk.append(BLANK, BLANK, BLANK, BLANK, BLANK), 40);
        check.illegalArgument("load(41)", () -> desk.load(41));
        check.same("load(40)", desk.load(40), 0);
        Check.append(desk, "tunnel 4 1;");
        check.same("load(11)", desk.load(11), 0);
        Check.append(desk, "tunnel 5 1;");
        check.same("load(10)", desk.load(10), -2);
        Check.append(desk, "tunnel 5 1;");
        check.same("load(0)", desk.load(0), -2);
        check.illegalArgument("load(1) of an empty buffer", () -> desk.load(1));
        check.illegalArgument("load(-1) of an empty buffer", () -> desk.load(-1));
        check.same("load(0) of an empty buffer", desk.load(0), -2);
    }

    /** "There is no smoke, the clock, all totals and all exposures are 0 then." */
    private static void loadStartsAnew() {
        TunnelControlDesk desk = Check.desk("tunnel 4 2;fire 1;rate 900;draft 40;vent 1 30;car 1 east;car 2 east;red 3 east;");
        desk.run(50);
        check.yes("smoke, totals and exposures", desk.total(0) > 0 && desk.total(2) > 0 && desk.total(3) > 0 && desk.exposure(0) > 0);
        Check.load(desk, "tunnel 12 2;car 1 east;car 2 east;");
        check.same("clock", desk.clock(), 0);
        for (int section = 0; section < 12; section++) {
            check.same("smoke", desk.smoke(section), 0);
        }
        for (int what = 0; what < 4; what++) {
            check.same("total", desk.total(what), 0);
        }
        check.same("exposure", desk.exposure(0) + desk.exposure(1), 0);
        check.same("fire", desk.fireSection(), -1);
        check.same("flow", desk.flow(), 0);
        check.no("red", desk.isRed(3, 1));
        check.same("exposures to come", desk.exposureWith(0, 60), 0);
        // Nothing is left of cars, fans and bays beyond the new ones either.
        TunnelControlDesk full = fullTunnel();
        full.run(3);
        Check.load(full, "tunnel 2 4;");
        check.same("cars", full.carCount(), 0);
        check.same("inside", full.inside(), 0);
        check.same("lane", full.carsIn(0, 1) + full.carsIn(0, -1) + full.carsIn(1, 1) + full.carsIn(1, -1), 0);
        check.same("bays", full.bestBays(), 0);
        check.same("flow", full.flow(), 0);
    }

    /** "... replaces the tunnel by the one that it describes": no signal, car, fan, vent or bay of the last one stays. */
    private static void loadAfterTheFullestTunnel() {
        TunnelControlDesk desk = Check.desk(fullestText());
        check.same("cars", desk.carCount(), 20);
        desk.run(20);
        check.same("load", Check.load(desk, "tunnel 12 1;fire 0;rate 5;draft 100;car 3 east;"), 1);
        for (int section = 0; section < 12; section++) {
            int at = section;
            check.no("red", desk.isRed(section, 1) || desk.isRed(section, -1));
            check.same("lanes", desk.carsIn(section, 1) + desk.carsIn(section, -1), section == 3 ? 1 : 0);
            check.same("bay", desk.bay(section), -1);
            check.illegalState("fan", () -> desk.fan(at));
        }
        check.same("the way is free", desk.clearingTime(200), 9);
        desk.run(20);
        check.same("no vents", desk.total(3), 0);
        check.same("smoke", desk.smoke(11), 5);
        check.same("the fullest again", Check.load(desk, fullestText()), 20);
        check.same("checksum", desk.checksum(), Check.desk(fullestText()).checksum());
    }

    /** "The input buffer is empty afterwards, also if the text has an error." */
    private static void loadEmptiesTheBuffer() {
        for (int length : new int[] {0, 5, 11, 20, 40}) {
            TunnelControlDesk desk = new TunnelControlDesk();
            Check.append(desk, "tunnel 2 1;         car 0 east;");
            desk.load(length);
            check.illegalArgument("load(1) after load(" + length + ")", () -> desk.load(1));
            check.same("append after load(" + length + ")", desk.append(0, 0, 0, 0, 0), 20);
        }
    }

    /** "An error leaves all other data unchanged." */
    private static void loadErrorsLeaveTheRest() {
        String[] wrong = {"", "tunnel 3 1;car 0 east;fire 2;draft 9;rate 8;fan 0 9;vent 0 9;bay 0;red 0 east;x", "tunnel 12 4;bay 99;",
            "tunnel 12 1;bay 0;bay 1;bay 2;bay 3;bay 4;bay 5;bay 6;", "tunnel 2 1;rate (((((1)))));"};
        int[] codes = {-2, -2, -3, -4, -5};
        for (int i = 0; i < wrong.length; i++) {
            TunnelControlDesk desk = fullTunnel();
            desk.run(2);
            String before = Check.state(desk);
            check.same("load", Check.load(desk, wrong[i]), codes[i]);
            check.yes("the tunnel stays", Check.state(desk).equals(before));
            check.same("the changes stay", desk.undo(), 1);
            TunnelControlDesk none = new TunnelControlDesk();
            Check.load(none, wrong[i]);
            check.same("no tunnel stays none", none.sectionCount(), 0);
            check.same("no change", none.undo(), -1);
        }
    }

    /** Promise 4: "... the latest call of load that did not throw; -1 if it found none or if there was no such call." */
    private static void errorOffsets() {
        TunnelControlDesk desk = new TunnelControlDesk();
        check.same("no call", desk.errorOffset(), -1);
        check.illegalArgument("load(1)", () -> desk.load(1));
        check.same("no call that did not throw", desk.errorOffset(), -1);
        Check.load(desk, "");
        check.same("offset 0", desk.errorOffset(), 0);
        Check.load(desk, "tunnel 2 1;" + " ".repeat(789));
        check.same("none", desk.errorOffset(), -1);
        Check.load(desk, "tunnel 2 1" + " ".repeat(790));
        check.same("offset 800", desk.errorOffset(), 800);
        check.illegalArgument("load(-1)", () -> desk.load(-1));
        check.same("a load that threw", desk.errorOffset(), 800);
        Check.load(desk, "tunnel 2 1;" + " ".repeat(788) + "!");
        check.same("offset 799", desk.errorOffset(), 799);
        check.same("undo", desk.undo(), 0);
        check.same("undo leaves it", desk.errorOffset(), 799);
        Check.load(desk, "tunnel 2 1;");
        check.same("none", desk.errorOffset(), -1);
        check.same("undo", desk.undo(), 0);
        check.same("undo leaves it", desk.errorOffset(), -1);
    }

    /** "if there is no such section", for each method with a section: 0 to n - 1 are sections. */
    private static void sectionIndexes() {
        for (int sections : new int[] {2, 12}) {
            StringBuilder text = new StringBuilder("tunnel " + sections + " 1;");
            for (int section = 0; section < sections; section++) {
                text.append("fan ").append(section).append(" 3;");
            }
            TunnelControlDesk desk = Check.desk(text + "bay 0;bay " + (sections - 1) + ";");
            for (int section : new int[] {0, sections - 1}) {
                check.same("smoke", desk.smoke(section), 0);
                check.same("fan", desk.fan(section), 3);
                check.same("bay", desk.bay(section), 1);
                check.no("isRed", desk.isRed(section, 1));
                check.same("carsIn", desk.carsIn(section, -1), 0);
                check.same("setFan", desk.setFan(section, 3), 3 * sections);
                check.no("setSignal", desk.setSignal(section, 1, false));
                check.yes("setBay", desk.setBay(section, true));
                desk.setFire(section);
                check.same("setFire", desk.fireSection(), section);
            }
            for (int section : new int[] {-1, sections, sections + 1, -2, LEAST, MOST}) {
                noSection(desk, section);
            }
        }
        for (int section : new int[] {-1, 0, 1, 11, LEAST, MOST}) {
            noSection(new TunnelControlDesk(), section);
        }
    }

    private static void noSection(TunnelControlDesk desk, int section) {
        check.outOfBounds("smoke(" + section + ")", () -> desk.smoke(section));
        check.outOfBounds("fan(" + section + ")", () -> desk.fan(section));
        check.outOfBounds("bay(" + section + ")", () -> desk.bay(section));
        check.outOfBounds("setBay(" + section + ")", () -> desk.setBay(section, true));
        for (int direction : new int[] {1, -1, 0, 2, LEAST, MOST}) {
            check.outOfBounds("isRed(" + section + ")", () -> desk.isRed(section, direction));
            check.outOfBounds("carsIn(" + section + ")", () -> desk.carsIn(section, direction));
            check.outOfBounds("setSignal(" + section + ")", () -> desk.setSignal(section, direction, true));
        }
        for (int setting : new int[] {0, 10, 11, -11, LEAST, MOST}) {
            check.outOfBounds("setFan(" + section + ", " + setting + ")", () -> desk.setFan(section, setting));
        }
        if (section != -1) {
            check.outOfBounds("setFire(" + section + ")", () -> desk.setFire(section));
        }
    }

    /** "if there is no such car", for each method with a car: cars have indexes from 0. */
    private static void carIndexes() {
        TunnelControlDesk full = fullTunnel();
        check.same("carCount", full.carCount(), 20);
        check.same("the first car", full.carSection(0), 0);
        check.same("the last car", full.carSection(19), 11);
        check.same("the last car", full.carDirection(19), -1);
        check.same("the last car", full.exposure(19), 0);
        noCars(full, 20, 21, -1, LEAST, MOST);
        TunnelControlDesk one = Check.desk("tunnel 12 1;car 11 east;");
        one.run(1);
        check.same("a car that has left is a car", one.carSection(0), -1);
        check.same("carCount", one.carCount(), 1);
        noCars(one, 1, 2, -1, 11, 19, 20, LEAST, MOST);
        noCars(Check.desk("tunnel 12 1;"), 0, -1, 1, 19);
        noCars(new TunnelControlDesk(), 0, -1, 1, 19);
    }

    private static void noCars(TunnelControlDesk desk, int... cars) {
        for (int car : cars) {
            check.outOfBounds("carSection(" + car + ")", () -> desk.carSection(car));
            check.outOfBounds("carDirection(" + car + ")", () -> desk.carDirection(car));
            check.outOfBounds("exposure(" + car + ")", () -> desk.exposure(car));
        }
    }

    /** "if direction is not 1 or -1" */
    private static void directions() {
        TunnelControlDesk desk = Check.desk("tunnel 2 2;car 1 east;red 1 west;");
        check.same("carsIn east", desk.carsIn(1, 1), 1);
        check.same("carsIn west", desk.carsIn(1, -1), 0);
        check.no("isRed east", desk.isRed(1, 1));
        check.yes("isRed west", desk.isRed(1, -1));
        for (int direction : new int[] {0, 2, -2, 3, -3, 255, LEAST, MOST}) {
            for (int section = 0; section < 2; section++) {
                int at = section;
                check.illegalArgument("isRed", () -> desk.isRed(at, direction));
                check.illegalArgument("carsIn", () -> desk.carsIn(at, direction));
                check.illegalArgument("setSignal", () -> desk.setSignal(at, direction, true));
                check.illegalArgument("setSignal", () -> desk.setSignal(at, direction, false));
            }
        }
    }

    /** Promise 12: "if what is not 0 to 3". */
    private static void totals() {
        for (TunnelControlDesk desk : new TunnelControlDesk[] {new TunnelControlDesk(), fullTunnel()}) {
            for (int what = 0; what <= 3; what++) {
                check.same("total(" + what + ")", desk.total(what), 0);
            }
            for (int what : new int[] {-1, 4, -2, 5, LEAST, MOST}) {
                check.illegalArgument("total(" + what + ")", () -> desk.total(what));
            }
        }
    }

    /** "the amount for 0 is the sum of the other three" */
    private static void totalOfTheParts() {
        TunnelControlDesk desk = Check.desk("tunnel 2 1;fire 1;rate 9999;draft 100;vent 1 50;");
        for (int tick = 1; tick <= 5; tick++) {
            desk.run(1);
            check.same("produced", desk.total(0), 9999L * tick);
            check.same("inside", desk.total(1), 9999);
            check.same("left", desk.total(2), 5000L * (tick - 1));
            check.same("removed", desk.total(3), 4999L * (tick - 1));
        }
        desk.setFire(-1);
        desk.run(100);
        check.same("no more produced", desk.total(0), 9999 * 5);
        check.same("none inside", desk.total(1), 0);
    }

    /** Promise 21: "limit: 0 to 200". */
    private static void clearingLimits() {
        for (TunnelControlDesk desk : new TunnelControlDesk[] {new TunnelControlDesk(), fullTunnel()}) {
            int due = desk.carCount() == 0 ? 0 : -1;
            check.same("clearingTime(0)", desk.clearingTime(0), due);
            check.same("clearingTime(1)", desk.clearingTime(1), due);
            desk.clearingTime(199);
            desk.clearingTime(200);
            for (int limit : new int[] {-1, 201, -200, LEAST, MOST}) {
                check.illegalArgument("clearingTime(" + limit + ")", () -> desk.clearingTime(limit));
            }
        }
    }

    /** "Returns the smallest such number, 0 to limit; -1 if limit ticks are not enough." */
    private static void clearingTimes() {
        for (int sections = 2; sections <= 12; sections++) {
            TunnelControlDesk desk = Check.desk("tunnel " + sections + " 1;car 0 east;");
            for (int limit = 0; limit <= 14; limit++) {
                check.same("clearingTime(" + limit + ")", desk.clearingTime(limit), limit < sections ? -1 : sections);
            }
            check.same("clearingTime(200)", desk.clearingTime(200), sections);
            desk.run(sections - 1);
            check.same("one tick more", desk.clearingTime(1), 1);
            check.same("none is not enough", desk.clearingTime(0), -1);
            desk.run(1);
            check.same("clear", desk.clearingTime(0), 0);
        }
        // A queue in front of a bay goes on although most of its cars stand still.
        TunnelControlDesk queue = Check.desk("tunnel 12 4;bay 10;fire 11;" + "car 10 east;".repeat(4) + "car 9 east;".repeat(4)
                + "car 8 east;".repeat(4));
        int time = queue.clearingTime(200);
        check.same("one tick too few", queue.clearingTime(time - 1), -1);
        check.same("just enough", queue.clearingTime(time), time);
        queue.run(time - 1);
        check.yes("still inside", queue.inside() > 0);
        queue.run(1);
        check.same("clear", queue.inside(), 0);
        check.same("never", Check.desk("tunnel 2 1;car 0 east;red 1 east;").clearingTime(200), -1);
    }

    private static void clearingWithoutCars() {
        TunnelControlDesk desk = Check.desk("tunnel 12 4;fire 1;red 1 east;");
        check.same("no cars", desk.clearingTime(0), 0);
        check.same("no cars", desk.clearingTime(200), 0);
        check.same("no tunnel", new TunnelControlDesk().clearingTime(0), 0);
    }

    private static void bestIs(String text, int set, int time) {
        TunnelControlDesk desk = Check.desk(text);
        check.same("bestBays of " + text, desk.bestBays(), set);
        check.same("bestBayTime of " + text, desk.bestBayTime(), time);
    }

    /** Promises 22 and 23: "-1 if there is no such set", "-1 if there is none". */
    private static void noSetOfBays() {
        bestIs("tunnel 12 1;car 0 east;red 1 east;", -1, -1);
        bestIs("tunnel 12 1;bay 0;bay 1;bay 2;bay 3;bay 4;bay 5;car 0 east;red 1 east;", -1, -1);
        bestIs("tunnel 12 1;bay 1;car 0 east;fire 1;", -1, -1);
        bestIs("tunnel 12 1;bay 0;car 0 east;fire 1;", 1, 2);
    }

    private static void noBays() {
        bestIs("tunnel 2 1;", 0, 0);
        bestIs("tunnel 2 1;car 0 east;", 0, 2);
        bestIs("tunnel 12 1;bay 0;bay 11;fire 5;", 0, 0);
        check.same("no tunnel", new TunnelControlDesk().bestBays(), 0);
        check.same("no tunnel", new TunnelControlDesk().bestBayTime(), 0);
        TunnelControlDesk left = Check.desk("tunnel 2 1;bay 0;bay 1;car 0 west;");
        left.run(1);
        check.same("all cars have left", left.bestBays(), 0);
        check.same("all cars have left", left.bestBayTime(), 0);
    }

    /** "the smallest clearingTime(200) ...; of several, the one with the fewest bays; of several, ... the smallest number" */
    private static void fewestAndSmallestBays() {
        // The bay of the greatest section, and both of the ends.
        bestIs("tunnel 12 1;bay 10;fire 11;car 10 east;", 1 << 10, 12);
        bestIs("tunnel 12 1;bay 11;fire 0;car 11 west;red 10 west;", 1 << 11, 2);
        bestIs("tunnel 12 1;bay 0;bay 11;fire 6;car 0 east;car 11 west;red 1 east;red 10 west;", 1 << 11 | 1, 2);
        // A shorter time with more bays, of greater numbers.
        bestIs("tunnel 12 1;bay 3;bay 9;bay 10;fire 5;car 9 west;car 10 west;red 8 west;", 1 << 9 | 1 << 10, 4);
        // One bay serves as well as two, and the smaller one as well as the greater one.
        bestIs("tunnel 12 1;bay 1;bay 2;fire 3;car 11 east;car 2 east;car 5 east;", 1 << 2, 7);
        bestIs("tunnel 8 1;bay 1;bay 2;bay 3;fire 4;car 3 east;car 2 east;car 1 east;car 0 west;car 4 east;", 1 << 1 | 1 << 2 | 1 << 3, 5);
    }

    /** "Exactly the bays of the set are open then, and all other settings stay as they are." */
    private static void restOfTheSettingsStay() {
        TunnelControlDesk desk = Check.desk("tunnel 4 1;bay 0;bay 1;fire 3;car 1 east;red 2 east;red 0 west;");
        check.same("a red signal in the way back", desk.bestBays(), -1);
        desk.setSignal(0, -1, false);
        check.same("a green one", desk.bestBays(), 2);
        check.same("a green one", desk.bestBayTime(), 3);
        desk.setBay(0, false);
        desk.setBay(1, false);
        check.same("closed bays can be opened", desk.bestBays(), 2);
        check.same("and are closed still", desk.bay(1), 0);
        desk.setFire(-1);
        check.same("no fire, no turning", desk.bestBays(), -1);
        desk.setSignal(2, 1, false);
        check.same("straight on", desk.bestBays(), 0);
        check.same("straight on", desk.bestBayTime(), 3);
    }

    /** Promise 24: "setting: -10 to 10, ticks: 0 to 60 ... if an argument is out of range". */
    private static void exposureLimits() {
        for (TunnelControlDesk desk : new TunnelControlDesk[] {new TunnelControlDesk(), fullTunnel()}) {
            for (int setting : new int[] {-10, -9, 0, 9, 10}) {
                check.same("no ticks", desk.exposureWith(setting, 0), 0);
                check.yes("60 ticks", desk.exposureWith(setting, 60) >= desk.exposureWith(setting, 59));
            }
            for (int setting : new int[] {-11, 11, LEAST, MOST}) {
                check.illegalArgument("setting " + setting, () -> desk.exposureWith(setting, 0));
                check.illegalArgument("setting " + setting, () -> desk.exposureWith(setting, 60));
                check.illegalArgument("setting " + setting, () -> desk.exposureWith(setting, -1));
            }
            for (int ticks : new int[] {-1, 61, LEAST, MOST}) {
                check.illegalArgument("ticks " + ticks, () -> desk.exposureWith(0, ticks));
                check.illegalArgument("ticks " + ticks, () -> desk.exposureWith(10, ticks));
            }
        }
    }

    /** "Predicts how much the exposures of all cars together will increase if all fans have the same setting." */
    private static void exposureForecasts() {
        String text = "tunnel 5 2;fire 2;rate 700;fan 0 4;fan 4 -9;draft 7;car 1 east;car 1 east;car 3 west;car 0 east;bay 1;vent 1 20;"
                + "red 4 east;";
        for (int setting = -10; setting <= 10; setting += 5) {
            for (int ticks : new int[] {1, 2, 5, 59, 60}) {
                TunnelControlDesk desk = Check.desk(text);
                desk.run(2);
                long due = -exposures(desk);
                TunnelControlDesk twin = Check.desk(text);
                twin.run(2);
                twin.setFan(0, setting);
                twin.setFan(4, setting);
                twin.run(ticks);
                due += exposures(twin);
                check.same("setting " + setting + ", ticks " + ticks, desk.exposureWith(setting, ticks), due);
            }
        }
        // A section without a fan gets none.
        check.same("no fan", Check.desk("tunnel 2 1;fire 0;rate flow+5;red 1 east;car 0 east;").exposureWith(10, 1), 5);
        check.same("no fire", Check.desk("tunnel 2 1;red 1 east;car 0 east;").exposureWith(10, 60), 0);
        check.same("no cars", Check.desk("tunnel 2 1;fire 0;").exposureWith(10, 60), 0);
        // The greatest forecast of all: 20 cars that stand in as much smoke as there can be.
        TunnelControlDesk most = Check.desk("tunnel 12 1;fire 0;rate 9999;car 0 east;red 1 east;");
        for (int i = 0; i < 100; i++) {
            most.run(100);
        }
        check.same("beyond an int", most.exposureWith(0, 60), 60L * 99990000 + 9999L * 60 * 61 / 2);
    }

    private static long exposures(TunnelControlDesk desk) {
        long sum = 0;
        for (int car = 0; car < desk.carCount(); car++) {
            sum += desk.exposure(car);
        }
        return sum;
    }

    /** Promise 25: "ticks: 0 to 60 ... if ticks is out of range". */
    private static void bestSettingLimits() {
        for (TunnelControlDesk desk : new TunnelControlDesk[] {new TunnelControlDesk(), fullTunnel()}) {
            check.same("no ticks", desk.bestSetting(0), 0);
            int best = desk.bestSetting(60);
            check.yes("a setting", best >= -10 && best <= 10);
            for (int ticks : new int[] {-1, 61, LEAST, MOST}) {
                check.illegalArgument("bestSetting(" + ticks + ")", () -> desk.bestSetting(ticks));
            }
        }
    }

    /** "of several, the one with the smallest absolute value; of two opposite ones, the positive one" */
    private static void bestSettingTies() {
        check.same("all alike", Check.desk("tunnel 2 1;fire 0;fan 0 7;rate 3;red 1 east;car 0 east;").bestSetting(1), 0);
        String rate = "tunnel 2 1;fire 0;fan 0 7;red 1 east;car 0 east;rate ";
        for (int setting = 1; setting <= 10; setting++) {
            // From this setting on the rate is 0.
            check.same("the smallest", Check.desk(rate + setting + "-flow;").bestSetting(1), setting);
            check.same("the smallest", Check.desk(rate + setting + "+flow;").bestSetting(1), -setting);
            // From the two opposite settings on it is.
            check.same("the positive one", Check.desk(rate + setting * setting + "-flow*flow;").bestSetting(1), setting);
        }
        // The best ones are the greatest and the least.
        check.same("11 is too much", Check.desk(rate + "11-flow;").bestSetting(1), 10);
        check.same("-11 is too little", Check.desk(rate + "11+flow;").bestSetting(1), -10);
        check.same("both ends", Check.desk(rate + "121-flow*flow;").bestSetting(1), 10);
        check.same("no fan", Check.desk("tunnel 2 1;fire 0;red 1 east;car 0 east;rate 5-flow;").bestSetting(60), 0);
    }

    /** Promise 26: "ticks: 1 to 100 ... if ticks is out of range (checked first)". */
    private static void runLimits() {
        TunnelControlDesk desk = Check.desk("tunnel 2 1;");
        desk.run(1);
        desk.run(100);
        check.same("clock", desk.clock(), 101);
        desk.run(99);
        check.same("clock", desk.clock(), 200);
        TunnelControlDesk none = new TunnelControlDesk();
        for (int ticks : new int[] {0, -1, 101, -100, LEAST, MOST}) {
            check.illegalArgument("run(" + ticks + ")", () -> desk.run(ticks));
            check.illegalArgument("run(" + ticks + ") without a tunnel", () -> none.run(ticks));
        }
        check.illegalState("run(1) without a tunnel", () -> none.run(1));
        check.illegalState("run(100) without a tunnel", () -> none.run(100));
        check.same("clock", desk.clock(), 200);
        check.same("no tunnel, no change", none.undo(), -1);
    }

    /** "... or if the clock would exceed 10000" */
    private static void runUpTo10000() {
        TunnelControlDesk desk = Check.desk("tunnel 2 1;fire 0;rate 1;car 0 east;red 1 east;");
        for (int i = 0; i < 99; i++) {
            desk.run(100);
        }
        check.same("run to 10000 at once", desk.run(100), 0);
        check.same("clock", desk.clock(), 10000);
        check.illegalState("run(1) at 10000", () -> desk.run(1));
        check.illegalState("run(100) at 10000", () -> desk.run(100));
        check.illegalArgument("run(101) at 10000", () -> desk.run(101));
        check.illegalArgument("run(0) at 10000", () -> desk.run(0));
        check.same("undo", desk.undo(), 7);
        check.same("clock", desk.clock(), 9900);
        check.same("run to 9999", desk.run(99), 0);
        check.illegalState("run(2) at 9999", () -> desk.run(2));
        check.illegalState("run(100) at 9999", () -> desk.run(100));
        check.same("clock", desk.clock(), 9999);
        check.same("smoke", desk.smoke(0), 9999);
        check.same("run(1) at 9999", desk.run(1), 0);
        check.same("clock", desk.clock(), 10000);
        // All else goes on at 10000.
        check.same("setFire", desk.setFire(1), 0);
        check.same("setSignal", desk.setSignal(1, 1, false) ? 1 : 0, 1);
        check.same("setFire", desk.setFire(-1), 1);
        check.same("clearingTime", desk.clearingTime(200), 2);
        check.same("exposureWith", desk.exposureWith(0, 60), 0);
        check.same("a new tunnel", Check.load(desk, "tunnel 2 1;"), 0);
        check.same("clock", desk.clock(), 0);
        desk.run(100);
        desk.undo();
        desk.undo();
        check.same("clock", desk.clock(), 10000);
        check.illegalState("run(1) at 10000", () -> desk.run(1));
    }

    /** "Returns the number of cars that left the tunnel in these ticks." */
    private static void carsThatLeave() {
        TunnelControlDesk desk = fullTunnel();
        check.same("none", desk.run(1), 0);
        desk.setFire(-1);
        int left = desk.run(100);
        check.same("all", left, 20);
        check.same("no more", desk.run(100), 0);
        TunnelControlDesk four = Check.desk("tunnel 2 4;" + "car 0 west;".repeat(4) + "car 1 east;".repeat(4) + "car 0 east;".repeat(4));
        check.same("eight at once", four.run(1), 8);
        check.same("the others", four.run(1), 4);
    }

    /** Promise 27: "setting: -10 to 10 ... (checked second) ... if the section has no fan". */
    private static void fanLimits() {
        TunnelControlDesk desk = Check.desk("tunnel 2 1;fan 0 5;draft 95;");
        for (int setting = -10; setting <= 10; setting++) {
            check.same("setFan " + setting, desk.setFan(0, setting), Math.min(100, 95 + setting));
            check.same("fan", desk.fan(0), setting);
        }
        for (int setting : new int[] {-11, 11, -100, LEAST, MOST}) {
            check.illegalArgument("setFan(0, " + setting + ")", () -> desk.setFan(0, setting));
            check.illegalArgument("no fan either", () -> desk.setFan(1, setting));
            check.outOfBounds("no section either", () -> desk.setFan(2, setting));
            check.outOfBounds("no section either", () -> desk.setFan(-1, setting));
        }
        for (int setting : new int[] {-10, 0, 10}) {
            check.illegalState("no fan", () -> desk.setFan(1, setting));
            check.outOfBounds("no section", () -> desk.setFan(2, setting));
        }
        check.illegalState("no fan", () -> desk.fan(1));
        check.same("fan", desk.fan(0), 10);
        TunnelControlDesk west = Check.desk("tunnel 2 1;fan 1 0;draft -95;");
        for (int setting = 10; setting >= -10; setting--) {
            check.same("setFan " + setting, west.setFan(1, setting), Math.max(-100, -95 + setting));
        }
    }

    /** Promise 28: "-1 if there is to be no fire ... if section is not -1 and there is no such section". */
    private static void fires() {
        TunnelControlDesk desk = Check.desk("tunnel 12 1;");
        check.same("none before", desk.setFire(-1), -1);
        check.same("none before", desk.setFire(11), -1);
        check.same("11 before", desk.setFire(0), 11);
        check.same("0 before", desk.setFire(-1), 0);
        check.same("none before", desk.setFire(-1), -1);
        for (int section : new int[] {12, 13, -2, LEAST, MOST}) {
            check.outOfBounds("setFire(" + section + ")", () -> desk.setFire(section));
        }
        check.same("no fire still", desk.fireSection(), -1);
        TunnelControlDesk none = new TunnelControlDesk();
        check.same("no tunnel", none.setFire(-1), -1);
        check.outOfBounds("no tunnel", () -> none.setFire(0));
        check.outOfBounds("no tunnel", () -> none.setFire(-2));
    }

    /** The desk has seven changes to undo before the call, which makes them eight. */
    private static void isChange(String what, TunnelControlDesk desk, int due, IntSupplier call) {
        check.same(what + " answers", call.getAsInt(), due);
        check.same(what + " is a change", desk.undo(), 7);
    }

    /** "A call counts as a change also if it sets a value to what the value already is." */
    private static void equalValuesAreChanges() {
        TunnelControlDesk desk = Check.desk("tunnel 2 1;fan 0 3;bay 1;fire 0;red 1 east;");
        for (int i = 0; i < 6; i++) {
            desk.setFire(0);
        }
        String before = Check.state(desk);
        isChange("setFan", desk, 3, () -> desk.setFan(0, 3));
        isChange("setFire", desk, 0, () -> desk.setFire(0));
        isChange("setSignal", desk, 1, () -> desk.setSignal(1, 1, true) ? 1 : 0);
        isChange("setSignal", desk, 0, () -> desk.setSignal(1, -1, false) ? 1 : 0);
        isChange("setBay", desk, 1, () -> desk.setBay(1, true) ? 1 : 0);
        check.yes("all undone", Check.state(desk).equals(before));
        TunnelControlDesk none = new TunnelControlDesk();
        none.setFire(-1);
        none.setFire(-1);
        check.same("also without a tunnel", none.undo(), 1);
        check.same("also without a tunnel", none.undo(), 0);
        check.same("no more", none.undo(), -1);
    }

    /** "The changing methods are load (when it succeeds), run, setFan, setFire, setSignal and setBay." */
    private static void whatIsAChange() {
        TunnelControlDesk desk = Check.desk("tunnel 2 1;fan 0 3;bay 1;fire 0;red 1 east;car 0 east;");
        for (int i = 0; i < 6; i++) {
            desk.setFire(0);
        }
        String before = Check.state(desk);
        isChange("setFan", desk, -3, () -> desk.setFan(0, -3));
        isChange("setFire", desk, 0, () -> desk.setFire(1));
        isChange("setFire", desk, 0, () -> desk.setFire(-1));
        isChange("setSignal", desk, 1, () -> desk.setSignal(1, 1, false) ? 1 : 0);
        isChange("setBay", desk, 1, () -> desk.setBay(1, false) ? 1 : 0);
        isChange("run", desk, 0, () -> desk.run(1));
        isChange("run", desk, 0, () -> desk.run(100));
        isChange("load", desk, 1, () -> Check.load(desk, "tunnel 12 4;car 11 west;"));
        check.yes("all undone", Check.state(desk).equals(before));
        // All else is none.
        check.same("load with an error", Check.load(desk, "tunnel 2 1"), -2);
        desk.append(0, 0, 0, 0, 0);
        desk.clearingTime(200);
        desk.bestBays();
        desk.bestBayTime();
        desk.bestSetting(60);
        desk.exposureWith(10, 60);
        desk.checksum();
        check.yes("the same", Check.state(desk).equals(before));
        check.same("no change", desk.undo(), 6);
    }

    /** "The latest 8 changes that have not been undone can be undone, the latest one first." */
    private static void eightChanges() {
        for (int changes = 0; changes <= 20; changes++) {
            TunnelControlDesk desk = new TunnelControlDesk();
            long[] sums = new long[changes + 1];
            for (int i = 0; i < changes; i++) {
                sums[i] = desk.checksum();
                if (i == 0) {
                    Check.load(desk, "tunnel 12 1;fire 0;");
                } else {
                    desk.setFire(i % 12);
                }
            }
            int most = Math.min(8, changes);
            for (int i = 1; i <= most; i++) {
                check.same("undo " + i + " of " + changes, desk.undo(), most - i);
                check.same("undone " + i + " of " + changes, desk.checksum(), sums[changes - i]);
            }
            check.same("no more", desk.undo(), -1);
            check.same("nothing changes", desk.checksum(), sums[changes - most]);
        }
    }

    /** "that have not been undone": a change that has been undone gives its place to a new one. */
    private static void changesAfterUndo() {
        TunnelControlDesk desk = Check.desk("tunnel 12 1;");
        for (int i = 0; i < 12; i++) {
            desk.setFire(i);
        }
        for (int round = 0; round < 20; round++) {
            check.same("undo", desk.undo(), 7);
            check.same("undo", desk.undo(), 6);
            desk.setFire(10);
            desk.setFire(11);
        }
        for (int i = 7; i >= 0; i--) {
            check.same("undo", desk.undo(), i);
            check.same("fire", desk.fireSection(), i == 7 ? 10 : i + 3);
        }
        check.same("no more", desk.undo(), -1);
        desk.setFire(0);
        check.same("one again", desk.undo(), 0);
        check.same("fire", desk.fireSection(), 3);
    }

    /** Promise 31: "-1 if there was none to undo, and nothing changes then". */
    private static void undoWithoutChanges() {
        TunnelControlDesk desk = fullTunnel();
        for (int i = 0; i < 9; i++) {
            desk.run(1);
        }
        for (int i = 0; i < 8; i++) {
            desk.undo();
        }
        String before = Check.state(desk);
        Check.load(desk, "x");
        Check.append(desk, "tunnel 2 1;");
        check.same("none to undo", desk.undo(), -1);
        check.same("none to undo", desk.undo(), -1);
        check.yes("nothing changes", Check.state(desk).equals(before));
        check.same("clock", desk.clock(), 1);
        check.same("the error offset", desk.errorOffset(), 0);
        check.same("the buffer", desk.load(11), 0);
        check.same("sections", desk.sectionCount(), 2);
    }

    /** "Before the first successful load there is no tunnel: there are no sections and no cars": also if it is undone. */
    private static void undoToNoTunnel() {
        TunnelControlDesk desk = fullTunnel();
        desk.run(5);
        check.same("undo", desk.undo(), 1);
        check.same("undo", desk.undo(), 0);
        check.same("sections", desk.sectionCount(), 0);
        check.same("cars", desk.carCount(), 0);
        check.same("inside", desk.inside(), 0);
        check.same("flow", desk.flow(), 0);
        check.same("fire", desk.fireSection(), -1);
        check.same("rate", desk.rate(), 0);
        check.same("clock", desk.clock(), 0);
        check.same("total", desk.total(0), 0);
        check.same("checksum", desk.checksum(), 0);
        check.same("bestBays", desk.bestBays(), 0);
        check.same("bestBayTime", desk.bestBayTime(), 0);
        check.same("clearingTime", desk.clearingTime(0), 0);
        check.same("exposureWith", desk.exposureWith(10, 60), 0);
        check.same("bestSetting", desk.bestSetting(60), 0);
        noSection(desk, 0);
        noCars(desk, 0);
        check.illegalState("run(1)", () -> desk.run(1));
        check.same("no more", desk.undo(), -1);
    }

    /** "Undoes the latest change": in each section and for each car, also the last ones. */
    private static void undoInTheFullestTunnel() {
        TunnelControlDesk desk = Check.desk(fullestText());
        desk.run(40);
        check.yes("smoke in the last section", desk.smoke(11) > 0);
        check.yes("exposure of the last car", desk.exposure(19) > 0);
        long before = desk.checksum();
        long last = desk.exposure(19);
        long due = desk.exposureWith(1, 30) + exposures(desk);
        desk.run(30);
        check.yes("exposure increases", desk.exposure(19) > last);
        check.same("as was foreseen", exposures(desk), due);
        for (int section = 0; section < 6; section++) {
            desk.setSignal(11 - section, section % 2 == 0 ? 1 : -1, false);
        }
        desk.run(100);
        for (int changes = 7; changes >= 0; changes--) {
            check.yes("not yet", desk.clock() > 40);
            check.same("undo", desk.undo(), changes);
        }
        check.same("all undone", desk.checksum(), before);
        for (int section = 0; section < 12; section++) {
            check.yes("red again", desk.isRed(section, 1) && desk.isRed(section, -1));
        }
        check.same("no more", desk.undo(), -1);
    }

    /** Promise 32: "0 without a tunnel". */
    private static void checksumOfNoTunnel() {
        TunnelControlDesk desk = new TunnelControlDesk();
        check.same("new", desk.checksum(), 0);
        desk.setFire(-1);
        check.same("after a change", desk.checksum(), 0);
        Check.load(desk, "tunnel 2 1;");
        check.same("the smallest tunnel", desk.checksum(), bigSum(desk));
        check.yes("not 0", desk.checksum() != 0);
        desk.undo();
        check.same("undone", desk.checksum(), 0);
    }

    /** "replaces it by 31 * checksum + n, wrapping around on overflow of a long" */
    private static void checksumWrapsAround() {
        // 2 + 2 * sections + 3 * cars + 1 numbers: from 13 on the sum may leave a long.
        for (int sections = 2; sections <= 12; sections++) {
            TunnelControlDesk desk = Check.desk("tunnel " + sections + " 1;draft -100;fire 1;rate 9999;car 1 east;bay 0;");
            for (int ticks = 0; ticks < 3; ticks++) {
                check.same("checksum of " + sections, desk.checksum(), bigSum(desk));
                desk.run(100);
            }
        }
        TunnelControlDesk full = fullTunnel();
        boolean negative = false;
        boolean positive = false;
        for (int i = 0; i < 5; i++) {
            check.same("checksum of the fullest", full.checksum(), bigSum(full));
            negative |= full.checksum() < 0;
            positive |= full.checksum() > 0;
            full.run(1);
        }
        check.yes("of both signs", negative && positive);
    }

    /** "An object is used for at most 512 calls after it has been made." */
    private static void callsUpTo512() {
        TunnelControlDesk desk = new TunnelControlDesk();
        for (int i = 0; i < 170; i++) {
            check.same("append", desk.append(0x74756e6e, 0x656c2034, 0x20323b66, 0x69726520, 0x333b2020), 20);
            check.same("load", desk.load(18), 0);
            check.same("run", desk.run(100), 0);
        }
        check.same("call 511", desk.undo(), 7);
        check.same("call 512", desk.checksum(), bigSumOf(0, 3, 0, -1, 0, -1, 0, -1, 0, -1, 0));
    }

    private static long bigSumOf(long... numbers) {
        BigInteger sum = BigInteger.ZERO;
        for (long number : numbers) {
            sum = with(sum, number);
        }
        return sum.longValue();
    }

    /** The sum without any overflow, cut to a long at its end. */
    private static long bigSum(TunnelControlDesk desk) {
        BigInteger sum = with(with(BigInteger.ZERO, desk.clock()), desk.fireSection());
        for (int section = 0; section < desk.sectionCount(); section++) {
            sum = with(with(sum, desk.smoke(section)), desk.bay(section));
        }
        for (int car = 0; car < desk.carCount(); car++) {
            sum = with(with(with(sum, desk.carSection(car)), desk.carDirection(car)), desk.exposure(car));
        }
        return with(sum, desk.flow()).longValue();
    }

    private static BigInteger with(BigInteger sum, long number) {
        return sum.multiply(BigInteger.valueOf(31)).add(BigInteger.valueOf(number));
    }
}
