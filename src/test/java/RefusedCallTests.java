import java.util.ArrayList;
import java.util.List;
import java.util.function.Consumer;

/** "A method that throws an exception changes nothing": each refused call, on desks of several kinds. */
public final class RefusedCallTests {
    private static final Class<? extends RuntimeException> BOUNDS = IndexOutOfBoundsException.class;
    private static final Class<? extends RuntimeException> ARGUMENT = IllegalArgumentException.class;
    private static final Class<? extends RuntimeException> STATE = IllegalStateException.class;

    private static final int LEAST = Integer.MIN_VALUE;
    private static final int MOST = Integer.MAX_VALUE;
    private static final int[] FAR = {LEAST, -100, -2, MOST};
    private static final int[] NO_DIRECTIONS = {LEAST, -2, 0, 2, MOST};
    private static final int[] NO_SETTINGS = {LEAST, -11, 11, MOST};

    private static final int KINDS = 7;
    private static final int NO_TUNNEL_KINDS = 3;
    private static final int LAST_TICK_KIND = 6;
    private static final String NEXT_TEXT = "tunnel 7 1;car 3 west;";
    private static final String TEXT = "tunnel 3 2;fan 0 5;bay 1;fire 2;red 2 east;car 0 east;car 1 east;car 2 west;"
            + "rate 90+clock;draft -20;vent 0 9;";

    private record Refused(String name, Class<? extends RuntimeException> due, Consumer<TunnelControlDesk> call) {
    }

    private static final Check check = new Check("RefusedCallTests");

    public static void main(String[] args) {
        for (int kind = 0; kind < KINDS; kind++) {
            for (Refused refused : refusedCalls(kind)) {
                changesNothing(kind, refused);
            }
            appendBeyondTheBuffer(kind);
            undoOfNothing(kind);
            loadWithAnError(kind);
        }
        check.finish();
    }

    private static TunnelControlDesk desk(int kind) {
        TunnelControlDesk desk = new TunnelControlDesk();
        switch (kind) {
            case 0:
                return desk;
            case 1:
                // No tunnel, an error and a buffer.
                Check.load(desk, "tunnel 1 1;");
                Check.append(desk, NEXT_TEXT);
                return desk;
            case 2:
                // No tunnel any more.
                Check.load(desk, TEXT);
                desk.run(3);
                desk.undo();
                desk.undo();
                return desk;
            case 3:
                Check.load(desk, TEXT);
                return desk;
            case 4:
                // Some changes, some of them undone; an error and a buffer.
                Check.load(desk, TEXT);
                desk.run(2);
                desk.setBay(1, false);
                desk.setFire(0);
                desk.undo();
                Check.load(desk, "tunnel 3 1;fire 3;");
                Check.append(desk, NEXT_TEXT);
                return desk;
            case 5:
                // As many changes as can be undone, and more.
                Check.load(desk, TEXT);
                for (int i = 0; i < 12; i++) {
                    desk.setFire(i % 3);
                    desk.run(1);
                }
                desk.setSignal(0, 1, true);
                return desk;
            default:
                Check.load(desk, TEXT);
                for (int i = 0; i < 100; i++) {
                    desk.run(100);
                }
                return desk;
        }
    }

    private static int length(int kind) {
        return kind == 1 || kind == 4 ? 40 : 0;
    }

    private static List<Refused> refusedCalls(int kind) {
        List<Refused> calls = new ArrayList<>();
        boolean tunnel = kind >= NO_TUNNEL_KINDS;
        argumentCalls(calls, length(kind));
        sectionCalls(calls, tunnel ? new int[] {-1, 3, 4, 11, 12} : new int[] {-1, 0, 1, 11, 12});
        sectionCalls(calls, FAR);
        fireCalls(calls, tunnel ? new int[] {3, 4, 11, 12} : new int[] {0, 1, 11, 12});
        fireCalls(calls, FAR);
        carCalls(calls, tunnel ? new int[] {-1, 3, 4, 19, 20} : new int[] {-1, 0, 1, 19, 20});
        carCalls(calls, FAR);
        if (tunnel) {
            tunnelCalls(calls);
        } else {
            calls.add(new Refused("run(1) without a tunnel", STATE, desk -> desk.run(1)));
            calls.add(new Refused("run(100) without a tunnel", STATE, desk -> desk.run(100)));
        }
        if (kind == LAST_TICK_KIND) {
            calls.add(new Refused("run(1) at 10000", STATE, desk -> desk.run(1)));
            calls.add(new Refused("run(100) at 10000", STATE, desk -> desk.run(100)));
        }
        return calls;
    }

    /** Those that no tunnel and no fan makes any better. */
    private static void argumentCalls(List<Refused> calls, int length) {
        for (int wrong : new int[] {LEAST, -1, length + 1, length + 20, 801, MOST}) {
            calls.add(new Refused("load(" + wrong + ")", ARGUMENT, desk -> desk.load(wrong)));
        }
        for (int wrong : new int[] {LEAST, -1, 4, MOST}) {
            calls.add(new Refused("total(" + wrong + ")", ARGUMENT, desk -> desk.total(wrong)));
        }
        for (int wrong : new int[] {LEAST, -1, 201, MOST}) {
            calls.add(new Refused("clearingTime(" + wrong + ")", ARGUMENT, desk -> desk.clearingTime(wrong)));
        }
        for (int wrong : NO_SETTINGS) {
            calls.add(new Refused("exposureWith(" + wrong + ", 60)", ARGUMENT, desk -> desk.exposureWith(wrong, 60)));
            calls.add(new Refused("exposureWith(" + wrong + ", 61)", ARGUMENT, desk -> desk.exposureWith(wrong, 61)));
        }
        for (int wrong : new int[] {LEAST, -1, 61, MOST}) {
            calls.add(new Refused("exposureWith(10, " + wrong + ")", ARGUMENT, desk -> desk.exposureWith(10, wrong)));
            calls.add(new Refused("bestSetting(" + wrong + ")", ARGUMENT, desk -> desk.bestSetting(wrong)));
        }
        for (int wrong : new int[] {LEAST, -1, 0, 101, MOST}) {
            calls.add(new Refused("run(" + wrong + ")", ARGUMENT, desk -> desk.run(wrong)));
        }
    }

    /** No such section: that is checked first, whatever else is wrong. */
    private static void sectionCalls(List<Refused> calls, int[] sections) {
        for (int section : sections) {
            calls.add(new Refused("smoke(" + section + ")", BOUNDS, desk -> desk.smoke(section)));
            calls.add(new Refused("fan(" + section + ")", BOUNDS, desk -> desk.fan(section)));
            calls.add(new Refused("bay(" + section + ")", BOUNDS, desk -> desk.bay(section)));
            calls.add(new Refused("setBay(" + section + ")", BOUNDS, desk -> desk.setBay(section, false)));
            for (int direction : new int[] {LEAST, -2, -1, 0, 1, 2, MOST}) {
                String arguments = "(" + section + ", " + direction + ")";
                calls.add(new Refused("isRed" + arguments, BOUNDS, desk -> desk.isRed(section, direction)));
                calls.add(new Refused("carsIn" + arguments, BOUNDS, desk -> desk.carsIn(section, direction)));
                calls.add(new Refused("setSignal" + arguments, BOUNDS, desk -> desk.setSignal(section, direction, true)));
            }
            for (int setting : new int[] {LEAST, -11, -10, 0, 10, 11, MOST}) {
                calls.add(new Refused("setFan(" + section + ", " + setting + ")", BOUNDS, desk -> desk.setFan(section, setting)));
            }
        }
    }

    private static void fireCalls(List<Refused> calls, int[] sections) {
        for (int section : sections) {
            calls.add(new Refused("setFire(" + section + ")", BOUNDS, desk -> desk.setFire(section)));
        }
    }

    private static void carCalls(List<Refused> calls, int[] cars) {
        for (int car : cars) {
            calls.add(new Refused("carSection(" + car + ")", BOUNDS, desk -> desk.carSection(car)));
            calls.add(new Refused("carDirection(" + car + ")", BOUNDS, desk -> desk.carDirection(car)));
            calls.add(new Refused("exposure(" + car + ")", BOUNDS, desk -> desk.exposure(car)));
        }
    }

    /** With a section that there is: sections 1 and 2 have no fan, 0 and 2 no bay. */
    private static void tunnelCalls(List<Refused> calls) {
        for (int section = 0; section < 3; section++) {
            int at = section;
            for (int direction : NO_DIRECTIONS) {
                String arguments = "(" + at + ", " + direction + ")";
                calls.add(new Refused("isRed" + arguments, ARGUMENT, desk -> desk.isRed(at, direction)));
                calls.add(new Refused("carsIn" + arguments, ARGUMENT, desk -> desk.carsIn(at, direction)));
                calls.add(new Refused("setSignal" + arguments, ARGUMENT, desk -> desk.setSignal(at, direction, true)));
            }
            for (int setting : NO_SETTINGS) {
                calls.add(new Refused("setFan(" + at + ", " + setting + ")", ARGUMENT, desk -> desk.setFan(at, setting)));
            }
            if (section != 0) {
                calls.add(new Refused("fan(" + at + ")", STATE, desk -> desk.fan(at)));
                for (int setting : new int[] {-10, 0, 10}) {
                    calls.add(new Refused("setFan(" + at + ", " + setting + ")", STATE, desk -> desk.setFan(at, setting)));
                }
            }
            if (section != 1) {
                calls.add(new Refused("setBay(" + at + ", true)", STATE, desk -> desk.setBay(at, true)));
                calls.add(new Refused("setBay(" + at + ", false)", STATE, desk -> desk.setBay(at, false)));
            }
        }
    }

    private static void changesNothing(int kind, Refused refused) {
        TunnelControlDesk desk = desk(kind);
        String name = refused.name() + " on desk " + kind;
        check.throwing(name, refused.due(), () -> refused.call().accept(desk));
        check.throwing(name + " again", refused.due(), () -> refused.call().accept(desk));
        check.yes(name + " changes nothing", trace(desk).equals(trace(desk(kind))));
    }

    /** All that can be seen of a desk: its tunnel, the changes to undo, the error offset and the buffer. */
    private static String trace(TunnelControlDesk desk) {
        StringBuilder text = new StringBuilder(Check.state(desk));
        text.append(" offset ").append(desk.errorOffset());
        int left = 0;
        for (int i = 0; i < 10 && left >= 0; i++) {
            left = desk.undo();
            text.append(" undo ").append(left).append(' ').append(desk.checksum()).append(' ').append(desk.total(0));
        }
        text.append(" offset ").append(desk.errorOffset());
        int length = desk.append(0, 0, 0, 0, 0);
        text.append(" buffer ").append(length).append(" load ").append(desk.load(length == 20 ? 20 : NEXT_TEXT.length()));
        return text.append(' ').append(desk.errorOffset()).append(' ').append(desk.checksum()).toString();
    }

    /** Promise 2: "-1 if it would exceed 800 bytes, and the buffer is unchanged then". */
    private static void appendBeyondTheBuffer(int kind) {
        TunnelControlDesk desk = full(kind);
        check.same("append to a full buffer", desk.append(9, 9, 9, 9, 9), -1);
        check.yes("append changes nothing on desk " + kind, trace(desk).equals(trace(full(kind))));
        TunnelControlDesk other = full(kind);
        other.append(9, 9, 9, 9, 9);
        check.illegalArgument("load(801)", () -> other.load(801));
        check.same("load(800) on desk " + kind, other.load(800), length(kind) == 0 ? -2 : 1);
    }

    private static TunnelControlDesk full(int kind) {
        TunnelControlDesk desk = desk(kind);
        for (int length = length(kind); length < 800; length += 20) {
            desk.append(0x20202020, 0x20202020, 0x20202020, 0x20202020, 0x20202020);
        }
        return desk;
    }

    /** Promise 31: "-1 if there was none to undo, and nothing changes then". */
    private static void undoOfNothing(int kind) {
        TunnelControlDesk desk = undone(kind);
        check.same("undo of nothing", desk.undo(), -1);
        check.same("undo of nothing", desk.undo(), -1);
        check.yes("undo changes nothing on desk " + kind, trace(desk).equals(trace(undone(kind))));
    }

    private static TunnelControlDesk undone(int kind) {
        TunnelControlDesk desk = desk(kind);
        for (int left = 1; left > 0;) {
            left = desk.undo();
        }
        return desk;
    }

    /** Promise 3: "An error leaves all other data unchanged" but for the buffer and the error's offset. */
    private static void loadWithAnError(int kind) {
        TunnelControlDesk desk = desk(kind);
        TunnelControlDesk twin = desk(kind);
        desk.load(0);
        String state = Check.state(desk);
        check.same("load with an error", Check.load(desk, "tunnel 12 4;car 1 east;fire 1;rate 5;bay 1;?"), -2);
        check.same("its offset", desk.errorOffset(), 43);
        check.yes("load changes nothing on desk " + kind, state.equals(Check.state(twin)) && Check.state(desk).equals(state));
        int left = desk.undo();
        check.same("the changes stay", left, twin.undo());
        check.same("the changes stay", desk.checksum(), twin.checksum());
    }
}
