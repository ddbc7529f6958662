/** The five steps of a tick, seen through run. */
public final class TickTests {
    private static final Check check = new Check("TickTests");

    public static void main(String[] args) {
        smokeMovesEast();
        smokeMovesWest();
        smallestFlows();
        ventsComeFirst();
        smokeMovesOnceATick();
        muchSmoke();
        rateIsThatOfTheBeginning();
        carsDriveInOrder();
        carsStop();
        carsLeaveTheFire();
        carsTurn();
        turningNeedsRoom();
        movedCarsDoNotTurn();
        exposureComesAfterDriving();
        fullTunnel();
        check.finish();
    }

    private static void smokes(String what, TunnelControlDesk desk, long... due) {
        for (int section = 0; section < due.length; section++) {
            check.same(what + ", smoke " + section, desk.smoke(section), due[section]);
        }
    }

    private static void totals(String what, TunnelControlDesk desk, long... due) {
        for (int total = 0; total < due.length; total++) {
            check.same(what + ", total " + total, desk.total(total), due[total]);
        }
    }

    private static void car(String what, TunnelControlDesk desk, int car, int section, int direction) {
        check.same(what + ", section of car " + car, desk.carSection(car), section);
        check.same(what + ", direction of car " + car, desk.carDirection(car), direction);
    }

    private static void smokeMovesEast() {
        TunnelControlDesk desk = Check.desk("tunnel 3 1;draft 50;fire 1;rate 101;");
        desk.run(1);
        smokes("east 1", desk, 0, 101, 0);
        desk.run(1);
        smokes("east 2", desk, 0, 152, 50);
        desk.run(1);
        smokes("east 3", desk, 0, 177, 101);
        totals("east 3", desk, 303, 278, 25, 0);
    }

    private static void smokeMovesWest() {
        TunnelControlDesk desk = Check.desk("tunnel 3 1;draft -50;fire 1;rate 101;");
        desk.run(3);
        smokes("west 3", desk, 101, 177, 0);
        totals("west 3", desk, 303, 278, 25, 0);
        desk.setFire(-1);
        desk.run(1);
        smokes("no fire", desk, 51 + 88, 89, 0);
        totals("no fire", desk, 303, 228, 75, 0);
    }

    private static void smallestFlows() {
        TunnelControlDesk desk = Check.desk("tunnel 3 1;draft 1;fire 1;rate 250;");
        desk.run(2);
        smokes("flow 1", desk, 0, 498, 2);
        desk = Check.desk("tunnel 3 1;draft -1;fire 1;rate 250;");
        desk.run(2);
        smokes("flow -1", desk, 2, 498, 0);
        desk = Check.desk("tunnel 3 1;fire 1;rate 250;vent 1 1;");
        desk.run(2);
        smokes("flow 0", desk, 0, 498, 0);
        totals("flow 0", desk, 500, 498, 0, 2);
    }

    private static void ventsComeFirst() {
        TunnelControlDesk desk = Check.desk("tunnel 2 1;draft 100;fire 0;rate 99;vent 0 50;vent 1 100;");
        desk.run(2);
        // 49 of 99 are removed, then all of the other 50 move.
        smokes("vents 2", desk, 99, 50);
        totals("vents 2", desk, 198, 149, 0, 49);
        desk.run(1);
        smokes("vents 3", desk, 99, 50);
        totals("vents 3", desk, 297, 149, 0, 148);
    }

    private static void smokeMovesOnceATick() {
        for (int flow = -100; flow <= 100; flow += 200) {
            TunnelControlDesk desk = Check.desk("tunnel 5 1;draft " + flow + ";fire 2;rate 7;vent 1 100;vent 3 100;");
            desk.run(2);
            smokes("once " + flow, desk, 0, flow < 0 ? 7 : 0, 7, flow < 0 ? 0 : 7, 0);
            totals("once " + flow, desk, 14, 14, 0, 0);
        }
    }

    private static void muchSmoke() {
        TunnelControlDesk desk = Check.desk("tunnel 2 1;fire 0;rate 9999;car 0 east;red 1 east;fan 0 1;draft -1;");
        for (int i = 0; i < 100; i++) {
            desk.run(100);
        }
        check.same("smoke after 10000 ticks", desk.smoke(0), 99990000);
        check.same("exposure after 10000 ticks", desk.exposure(0), 9999L * (10000L * 10001L / 2));
        totals("much", desk, 99990000, 99990000, 0, 0);
        check.same("increase beyond the clock's limit", desk.exposureWith(1, 2),
                99990000L + 9999 + 99990000L + 2 * 9999);
        // 100 times this smoke is beyond an int.
        check.same("moved by flow 9", desk.exposureWith(10, 1), 99990000L - 8999100 + 9999);
        desk.undo();
        desk.setFan(0, 10);
        desk.run(1);
        check.same("smoke moved", desk.smoke(1), 98990100L * 9 / 100);
    }

    private static void rateIsThatOfTheBeginning() {
        TunnelControlDesk desk = Check.desk("tunnel 2 1;fire 0;rate clock*100+cars*10+1;car 1 east;car 0 west;");
        desk.run(1);
        check.same("inside", desk.inside(), 0);
        check.same("first rate", desk.smoke(0), 21);
        desk.run(1);
        check.same("second rate", desk.smoke(0), 21 + 101);
        check.same("next rate", desk.rate(), 201);
    }

    private static void carsDriveInOrder() {
        // A row of cars moves on as a whole, as the cars ahead go first.
        TunnelControlDesk desk = Check.desk("tunnel 4 1;car 0 east;car 1 east;car 2 east;car 3 west;car 2 west;car 1 west;");
        check.same("left", desk.run(1), 0);
        for (int i = 0; i < 3; i++) {
            car("row", desk, i, i + 1, 1);
            car("row", desk, 3 + i, 2 - i, -1);
        }
        check.same("left", desk.run(1), 2);
        car("row", desk, 2, -1, 1);
        car("row", desk, 5, -1, -1);
        // Of the cars in one section, the one with the smaller index takes the room.
        desk = Check.desk("tunnel 4 2;red 3 east;car 2 east;car 1 east;car 1 east;car 2 east;car 0 east;");
        desk.setSignal(3, 1, true);
        desk.run(1);
        car("jam", desk, 1, 1, 1);
        car("jam", desk, 4, 0, 1);
        desk = Check.desk("tunnel 4 2;red 3 east;car 2 east;car 1 east;car 1 east;");
        desk.run(1);
        car("smaller index", desk, 0, 2, 1);
        car("smaller index", desk, 1, 2, 1);
        car("smaller index", desk, 2, 1, 1);
        desk = Check.desk("tunnel 4 2;red 0 west;car 2 west;car 1 west;car 2 west;");
        desk.run(1);
        car("smaller index", desk, 0, 1, -1);
        car("smaller index", desk, 1, 1, -1);
        car("smaller index", desk, 2, 2, -1);
    }

    private static void carsStop() {
        TunnelControlDesk desk = Check.desk("tunnel 3 1;red 1 east;red 1 west;red 0 east;car 0 east;car 2 west;car 2 east;");
        desk.run(3);
        car("red", desk, 0, 0, 1);
        car("red", desk, 1, 2, -1);
        car("exit has no signal", desk, 2, -1, 1);
        desk.setSignal(1, 1, false);
        desk.run(1);
        car("green", desk, 0, 1, 1);
        car("still red", desk, 1, 2, -1);
        desk = Check.desk("tunnel 3 1;fire 1;car 0 east;car 2 west;");
        desk.run(5);
        car("fire", desk, 0, 0, 1);
        car("fire", desk, 1, 2, -1);
    }

    private static void carsLeaveTheFire() {
        TunnelControlDesk desk = Check.desk("tunnel 3 1;fire 1;bay 1;car 1 east;car 1 west;");
        desk.run(1);
        car("out of the fire", desk, 0, 2, 1);
        car("out of the fire", desk, 1, 0, -1);
        desk = Check.desk("tunnel 3 1;fire 1;bay 1;red 2 east;car 1 east;");
        desk.run(2);
        car("no turning in the fire", desk, 0, 1, 1);
        desk = Check.desk("tunnel 3 1;fire 1;bay 1;red 0 west;car 1 west;");
        desk.run(2);
        car("no turning in the fire", desk, 0, 1, -1);
    }

    private static void carsTurn() {
        TunnelControlDesk desk = Check.desk("tunnel 5 1;fire 2;bay 1;bay 3;bay 4;car 1 east;car 3 west;car 0 east;car 4 west;");
        desk.run(1);
        car("turned", desk, 0, 1, -1);
        car("turned", desk, 1, 3, 1);
        // The lanes ahead were full in step 2; section 0 has no bay, section 4 has one.
        car("no bay", desk, 2, 0, 1);
        car("turned", desk, 3, 4, 1);
        desk = Check.desk("tunnel 5 1;fire 2;bay 1;bay 3;car 3 east;car 1 west;red 4 east;red 0 west;");
        desk.run(3);
        car("fire behind", desk, 0, 3, 1);
        car("fire behind", desk, 1, 1, -1);
        desk = Check.desk("tunnel 5 1;fire 4;bay 1;red 2 east;car 1 east;");
        desk.run(1);
        car("far fire", desk, 0, 1, -1);
        desk = Check.desk("tunnel 5 1;fire 0;bay 1;car 1 west;");
        desk.run(1);
        car("fire at the end", desk, 0, 1, 1);
        desk = Check.desk("tunnel 5 1;fire 4;bay 3;car 3 east;");
        desk.run(1);
        car("fire at the other end", desk, 0, 3, -1);
        desk = Check.desk("tunnel 5 1;fire 2;bay 1;car 1 east;");
        desk.setBay(1, false);
        desk.run(2);
        car("closed bay", desk, 0, 1, 1);
        desk = Check.desk("tunnel 5 1;bay 1;red 2 east;car 1 east;bay 3;red 2 west;car 3 west;");
        desk.run(2);
        car("no fire", desk, 0, 1, 1);
        car("no fire", desk, 1, 3, -1);
    }

    private static void turningNeedsRoom() {
        TunnelControlDesk desk = Check.desk("tunnel 5 1;fire 2;bay 1;red 0 west;car 1 west;car 1 east;");
        desk.run(2);
        car("other lane full", desk, 1, 1, 1);
        desk.setSignal(0, -1, false);
        desk.run(1);
        car("other lane free", desk, 0, 0, -1);
        car("other lane free", desk, 1, 1, -1);
        // Two cars want the one place; the smaller index has it, and frees a place of its own.
        desk = Check.desk("tunnel 5 2;fire 2;bay 1;red 0 west;car 1 west;car 1 east;car 1 east;");
        desk.run(1);
        car("smaller index turns", desk, 1, 1, -1);
        car("smaller index turns", desk, 2, 1, 1);
    }

    /** The most sections, cars, bays, fans and vents. */
    private static void fullTunnel() {
        StringBuilder text = new StringBuilder("tunnel 12 1;fire 6;rate 9999;");
        for (int i = 0; i < 12; i++) {
            text.append("fan ").append(i).append(i < 6 ? " -2;" : " 3;").append("vent ").append(i).append(" 1;");
            text.append(i % 2 == 1 ? "bay " + i + ";" : "");
            text.append(i < 10 ? "car " + i + " east;" : "").append(i > 1 ? "car " + i + " west;" : "");
        }
        TunnelControlDesk desk = Check.desk(text.toString());
        check.same("cars", desk.carCount(), 20);
        check.same("no exposure in no ticks", desk.exposureWith(10, 0), 0);
        check.same("the cars in the fire drive on first", desk.exposureWith(0, 1), 0);
        int best = desk.bestSetting(60);
        for (int setting = -10; setting <= 10; setting++) {
            check.yes("best of all settings", desk.exposureWith(best, 60) <= desk.exposureWith(setting, 60));
        }
        // The cars that come up to the fire need the bays beside it.
        int bays = desk.bestBays();
        check.same("bestBays", bays & (1 << 5 | 1 << 7), 1 << 5 | 1 << 7);
        for (int i = 1; i < 12; i += 2) {
            desk.setBay(i, (bays >> i & 1) == 1);
        }
        check.same("bestBayTime", desk.bestBayTime(), desk.clearingTime(200));
        check.same("flow", desk.flow(), 6);
        check.same("left", desk.run(1), 0);
        int left = desk.run(40) + desk.run(40);
        check.same("left and inside", left + desk.inside(), 20);
        check.same("all smoke", desk.total(0), 81 * 9999);
        check.same("sum of the totals", desk.total(1) + desk.total(2) + desk.total(3), 81 * 9999);
        check.yes("smoke at both ends", desk.smoke(11) > 0 && desk.smoke(0) == 0);
    }

    private static void movedCarsDoNotTurn() {
        TunnelControlDesk desk = Check.desk("tunnel 5 1;fire 3;bay 1;bay 2;car 0 east;");
        desk.run(1);
        car("moved into a bay", desk, 0, 1, 1);
        desk.run(1);
        car("moved to the fire", desk, 0, 2, 1);
        desk.run(1);
        car("stayed", desk, 0, 2, -1);
        desk.run(1);
        car("back", desk, 0, 1, -1);
    }

    private static void exposureComesAfterDriving() {
        TunnelControlDesk desk = Check.desk("tunnel 3 1;fire 1;rate 10;car 1 east;car 0 east;");
        desk.run(1);
        check.same("car out of the smoke", desk.exposure(0), 0);
        check.same("car before the smoke", desk.exposure(1), 0);
        desk = Check.desk("tunnel 3 1;fire 1;rate 10;car 0 east;red 2 east;draft 100;car 2 west;");
        desk.setFire(2);
        desk.run(1);
        check.same("smoke of this tick", desk.exposure(1), 0);
        desk.undo();
        desk.undo();
        desk.setFire(0);
        desk.run(2);
        car("stopped", desk, 0, 1, 1);
        check.same("smoke that came along", desk.exposure(0), 10);
        desk.run(1);
        check.same("smoke that came along", desk.exposure(0), 20);
    }
}
