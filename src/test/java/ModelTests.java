import java.util.ArrayList;
import java.util.List;
import java.util.function.LongSupplier;

/** Random runs of calls, the same ones each time, on a desk and on the model. */
public final class ModelTests {
    private static final int RUNS = 1000;
    private static final int STEPS = 200;
    /** An object is used for at most 512 calls; the longest step takes some 50. */
    private static final int CALLS = 450;
    private static final int TEXTS = 20000;

    private static final Check check = new Check("ModelTests");
    private static long seed;
    private static int calls;

    public static void main(String[] args) {
        for (int run = 0; run < RUNS; run++) {
            seed = run;
            oneRun(run);
        }
        for (int text = 0; text < TEXTS; text++) {
            seed = 1000000 + text;
            oneText();
        }
        check.finish();
    }

    /** A number from 0 to bound - 1. */
    private static int pick(int bound) {
        seed = seed * 6364136223846793005L + 1442695040888963407L;
        long mixed = (seed ^ seed >>> 29) * 0x9E3779B97F4A7C15L;
        return (int) ((mixed >>> 33) % bound);
    }

    private static boolean chance(int percent) {
        return pick(100) < percent;
    }

    private static String answer(LongSupplier call) {
        try {
            return String.valueOf(call.getAsLong());
        } catch (RuntimeException e) {
            return e.getClass().getName();
        }
    }

    private static void compare(String what, LongSupplier desk, LongSupplier model) {
        calls++;
        String got = answer(desk);
        String due = answer(model);
        check.yes(got.equals(due) ? what : what + " (answered " + got + ", due is " + due + ") as due", got.equals(due));
    }

    private static void bring(String run, TunnelControlDesk desk, Model model, String text) {
        for (int start = 0; start < text.length(); start += 20) {
            int[] w = new int[5];
            for (int i = 0; i < 20; i++) {
                w[i / 4] = w[i / 4] << 8 | (start + i < text.length() ? text.charAt(start + i) : ' ');
            }
            compare(run + "append", () -> desk.append(w[0], w[1], w[2], w[3], w[4]), () -> model.append(w));
        }
        compare(run + "load of " + text, () -> desk.load(text.length()), () -> model.load(text.length()));
        compare(run + "errorOffset of " + text, desk::errorOffset, () -> model.plain(0));
        compare(run + "checksum of " + text, desk::checksum, () -> model.plain(11));
        compare(run + "rate of " + text, desk::rate, () -> model.plain(5));
    }

    private static void oneText() {
        bring("text: ", new TunnelControlDesk(), new Model(), spoilt(text()));
    }

    private static void oneRun(int run) {
        TunnelControlDesk desk = new TunnelControlDesk();
        Model model = new Model();
        String name = "run " + run + ", step ";
        calls = 0;
        for (int step = 0; step < STEPS && calls < CALLS; step++) {
            if (chance(step == 0 ? 95 : 4)) {
                bring(name + step + ": ", desk, model, chance(80) ? text() : spoilt(text()));
            }
            oneCall(name + step + ": ", desk, model);
        }
    }

    private static int section() {
        return chance(96) ? pick(5) + pick(8) * pick(2) : pick(16) - 2;
    }

    private static int direction() {
        return chance(96) ? pick(2) * 2 - 1 : pick(5) - 2;
    }

    private static void oneCall(String run, TunnelControlDesk desk, Model model) {
        int kind = pick(30);
        int s = section();
        int d = direction();
        int car = pick(22) - 1;
        boolean on = chance(50);
        switch (kind) {
            case 0:
            case 1:
                int length = pick(900) - 50;
                if (chance(20)) {
                    compare(run + "load " + length, () -> desk.load(length), () -> model.load(length));
                }
                break;
            case 2:
                compare(run + "smoke", () -> desk.smoke(s), () -> model.smoke(s));
                break;
            case 3:
                int what = pick(6) - 1;
                compare(run + "total", () -> desk.total(what), () -> model.total(what));
                break;
            case 4:
                compare(run + "fan", () -> desk.fan(s), () -> model.fan(s));
                compare(run + "bay", () -> desk.bay(s), () -> model.bay(s));
                break;
            case 5:
                compare(run + "isRed", () -> desk.isRed(s, d) ? 1 : 0, () -> model.isRed(s, d) ? 1 : 0);
                break;
            case 6:
            case 7:
                compare(run + "carSection", () -> desk.carSection(car), () -> model.carSection(car));
                compare(run + "carDirection", () -> desk.carDirection(car), () -> model.carDirection(car));
                compare(run + "exposure", () -> desk.exposure(car), () -> model.exposure(car));
                break;
            case 8:
                compare(run + "carsIn", () -> desk.carsIn(s, d), () -> model.carsIn(s, d));
                break;
            case 9:
                int limit = chance(50) ? 200 : chance(80) ? pick(30) : pick(220) - 10;
                compare(run + "clearingTime " + limit, () -> desk.clearingTime(limit), () -> model.clearingTime(limit));
                break;
            case 10:
                compare(run + "bestBays", desk::bestBays, () -> model.plain(8));
                compare(run + "bestBayTime", desk::bestBayTime, () -> model.plain(9));
                break;
            case 11:
                int setting = pick(24) - 12;
                int ticks = chance(90) ? pick(20) : pick(70) - 5;
                compare(run + "exposureWith " + setting + " " + ticks,
                        () -> desk.exposureWith(setting, ticks), () -> model.exposureWith(setting, ticks));
                break;
            case 12:
                int ahead = chance(90) ? pick(20) : pick(70) - 5;
                compare(run + "bestSetting " + ahead, () -> desk.bestSetting(ahead), () -> model.bestSetting(ahead));
                break;
            case 13:
            case 14:
            case 15:
            case 16:
                int many = chance(90) ? 1 + pick(2) : pick(110) - 4;
                compare(run + "run " + many, () -> desk.run(many), () -> model.run(many));
                break;
            case 17:
            case 18:
                int blow = chance(95) ? pick(21) - 10 : pick(30) - 15;
                compare(run + "setFan", () -> desk.setFan(s, blow), () -> model.setFan(s, blow));
                break;
            case 19:
            case 20:
                int fire = chance(70) ? s : -1;
                compare(run + "setFire", () -> desk.setFire(fire), () -> model.setFire(fire));
                break;
            case 21:
            case 22:
                compare(run + "setSignal", () -> desk.setSignal(s, d, on) ? 1 : 0,
                        () -> model.setSignal(s, d, on) ? 1 : 0);
                break;
            case 23:
                compare(run + "setBay", () -> desk.setBay(s, on) ? 1 : 0, () -> model.setBay(s, on) ? 1 : 0);
                break;
            case 24:
            case 25:
                compare(run + "undo", desk::undo, () -> model.plain(10));
                break;
            default:
                plainCalls(run, desk, model);
                break;
        }
        compare(run + "checksum after kind " + kind, desk::checksum, () -> model.plain(11));
    }

    private static void plainCalls(String run, TunnelControlDesk desk, Model model) {
        compare(run + "errorOffset", desk::errorOffset, () -> model.plain(0));
        compare(run + "sectionCount", desk::sectionCount, () -> model.plain(1));
        compare(run + "carCount", desk::carCount, () -> model.plain(2));
        compare(run + "clock", desk::clock, () -> model.plain(3));
        compare(run + "flow", desk::flow, () -> model.plain(4));
        compare(run + "rate", desk::rate, () -> model.plain(5));
        compare(run + "fireSection", desk::fireSection, () -> model.plain(6));
        compare(run + "inside", desk::inside, () -> model.plain(7));
    }

    /** A setup text without an error, unless a sum is too deep or a factor too large, with its statements mixed. */
    private static String text() {
        int sections = 2 + pick(11);
        int capacity = 1 + pick(4);
        List<String> statements = new ArrayList<>();
        List<Integer> order = order(sections);
        for (int i = pick(Math.min(sections, 6) + 1); i > 0; i--) {
            statements.add("bay " + order.get(i - 1));
        }
        order = order(sections);
        for (int i = chance(20) ? sections : pick(3); i > 0; i--) {
            statements.add("fan " + order.get(i - 1) + " " + (pick(21) - 10));
        }
        order = order(sections);
        for (int i = chance(20) ? sections : pick(3); i > 0; i--) {
            statements.add("vent " + order.get(i - 1) + " " + (1 + pick(100)));
        }
        int[] lanes = new int[2 * sections];
        for (int i = pick(21); i > 0; i--) {
            int lane = pick(2 * sections);
            if (lanes[lane]++ < capacity) {
                statements.add("car " + lane / 2 + (lane % 2 == 0 ? " east" : " west"));
            }
        }
        for (int i = pick(3); i > 0; i--) {
            statements.add("red " + pick(sections) + (chance(50) ? " east" : " west"));
        }
        if (chance(85)) {
            statements.add("fire " + pick(sections));
        }
        if (chance(60)) {
            statements.add("draft " + (chance(70) ? pick(41) - 20 : pick(201) - 100));
        }
        if (chance(60)) {
            statements.add("rate " + sum(0));
        }
        StringBuilder text = new StringBuilder(blank()).append("tunnel ").append(sections).append(' ')
                .append(capacity).append(blank()).append(';');
        while (!statements.isEmpty()) {
            String statement = statements.remove(pick(statements.size()));
            if (text.length() + statement.length() < 780) {
                text.append(blank()).append(statement).append(blank()).append(';');
            }
        }
        return text.append(blank()).toString();
    }

    /** The sections in a random order. */
    private static List<Integer> order(int sections) {
        List<Integer> order = new ArrayList<>();
        for (int i = 0; i < sections; i++) {
            order.add(pick(order.size() + 1), i);
        }
        return order;
    }

    private static String blank() {
        return chance(90) ? "" : "  ".substring(pick(2));
    }

    private static String sum(int depth) {
        StringBuilder sum = new StringBuilder(factor(depth));
        for (int i = pick(4); i > 0; i--) {
            sum.append(blank()).append("+-*/".charAt(pick(4))).append(factor(depth));
        }
        return sum.toString();
    }

    private static String factor(int depth) {
        switch (pick(depth < 4 ? 7 : chance(99) ? 5 : 6)) {
            case 0:
                return "clock";
            case 1:
                return "cars";
            case 2:
                return "flow";
            case 3:
                return String.valueOf(pick(10));
            case 4:
                return String.valueOf(pick(10003));
            default:
                return depth > 5 ? "1" : "(" + sum(depth + 1) + ")";
        }
    }

    /** The text with a few signs changed, left out, put in or cut off. */
    private static String spoilt(String text) {
        StringBuilder spoilt = new StringBuilder(text);
        for (int i = pick(3); i > 0; i--) {
            int at = pick(spoilt.length());
            String signs = " ;0123456789-+*/()abnestw\u00e4\n";
            char sign = signs.charAt(pick(signs.length()));
            switch (pick(5)) {
                case 0:
                    spoilt.setCharAt(at, sign);
                    break;
                case 1:
                    spoilt.deleteCharAt(at);
                    break;
                case 2:
                    spoilt.insert(at, sign);
                    break;
                case 3:
                    spoilt.append(extra());
                    break;
                default:
                    if (chance(30)) {
                        spoilt.setLength(at + 1);
                    }
                    break;
            }
        }
        return spoilt.toString();
    }

    private static String extra() {
        String[] extras = {"bay 1;bay 3;bay 0;bay 2;bay 4;bay 5;bay 6;bay 7;", "fire 1;", "fan 2 -11;", "car 1",
            "draft -101;", "rate ((((((1))))));", "red 1;", "vent 1 5;", "car 4 east;car 4 east;car 4 east;car 4 east;car 4 east;"};
        return extras[pick(extras.length)];
    }
}
