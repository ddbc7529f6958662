/** Each sentence on the tunnel and on the steps of a tick that names a boundary, in the document's order. */
public final class TickEdgeTests {
    private static final int[] BOTH = {1, -1};

    private static final Check check = new Check("TickEdgeTests");

    public static void main(String[] args) {
        limitsOfTheFlow();
        flowOfAllFans();
        noSmokeAtFirst();
        ventsRoundDown();
        airRoundsDown();
        ventsBeforeTheAir();
        directionOfTheAir();
        smokeLeavesAtTheEnds();
        allSectionsAtTheSameTime();
        freshSmokeStays();
        noFire();
        carsLeaveAtTheEnds();
        carsDoNotComeBack();
        nextSectionBurns();
        ownSectionBurns();
        signalAhead();
        roomAhead();
        roomAtThatMoment();
        onePlaceForTwo();
        turningNeedsABay();
        turningNeedsTheFireAhead();
        turningNeedsRoom();
        onePlaceForTwoThatTurn();
        whateverStopsACar();
        onlyCarsThatStayedTurn();
        exposureOfCarsInside();
        exposureComesAfterTurning();
        clockIncreasesByOne();
        check.finish();
    }

    private static String way(int direction) {
        return direction == 1 ? " east;" : " west;";
    }

    /** The section that is so many sections from the end where the cars of the direction come in. */
    private static int at(int sections, int direction, int steps) {
        return direction == 1 ? steps : sections - 1 - steps;
    }

    private static void car(String what, TunnelControlDesk desk, int car, int section, int direction) {
        check.same(what + ", section of car " + car, desk.carSection(car), section);
        check.same(what + ", direction of car " + car, desk.carDirection(car), direction);
    }

    /** A tunnel of 3 sections with so much smoke in its middle one, and no fire any more. */
    private static TunnelControlDesk smoky(int smoke, String statements) {
        TunnelControlDesk desk = Check.desk("tunnel 3 1;fire 1;rate " + smoke + ";" + statements);
        desk.run(1);
        desk.setFire(-1);
        check.same("smoke to begin with", desk.smoke(1), smoke);
        return desk;
    }

    /** One tick more: what the vent has removed, what has moved (east counts 1, west -1), and what stays. */
    private static void oneTick(int smoke, int vent, int flow, long removed, long moved) {
        String statements = "draft " + flow + ";" + (vent == 0 ? "" : "vent 1 " + vent + ";");
        String what = smoke + " with vent " + vent + " and flow " + flow;
        TunnelControlDesk desk = smoky(smoke, statements);
        desk.run(1);
        check.same("west of " + what, desk.smoke(0), flow < 0 ? moved : 0);
        check.same("left of " + what, desk.smoke(1), smoke - removed - moved);
        check.same("east of " + what, desk.smoke(2), flow > 0 ? moved : 0);
        check.same("removed of " + what, desk.total(3), removed);
        check.same("all of " + what, desk.total(0), smoke);
        check.same("inside of " + what, desk.total(1), smoke - removed);
        check.same("out of " + what, desk.total(2), 0);
    }

    /** "The flow is the draft ... plus the sum of the settings of all fans, limited to the range -100 to 100." */
    private static void limitsOfTheFlow() {
        for (int sign : BOTH) {
            String start = "tunnel 12 1;draft " + 98 * sign + ";fan 0 ";
            for (int fan = 0; fan <= 10; fan++) {
                int due = sign * Math.min(100, 98 + fan);
                check.same("flow", Check.desk(start + sign * fan + ";").flow(), due);
                check.same("two fans", Check.desk(start + sign * fan + ";fan 1 " + -sign + ";").flow(),
                        sign * Math.min(100, 97 + fan));
            }
            check.same("limited", Check.desk("tunnel 2 1;draft " + 100 * sign + ";fan 0 " + sign + ";").flow(), 100 * sign);
        }
    }

    private static void flowOfAllFans() {
        for (int sign : BOTH) {
            StringBuilder text = new StringBuilder("tunnel 12 1;draft " + 100 * sign + ";");
            for (int section = 0; section < 12; section++) {
                text.append("fan ").append(section).append(' ').append(10 * sign).append(';');
            }
            TunnelControlDesk desk = Check.desk(text.toString());
            // The sum is 220, and its limit comes after all fans.
            check.same("all fans", desk.flow(), 100 * sign);
            for (int section = 0; section < 6; section++) {
                check.same("still", desk.setFan(section, -10 * sign), sign * Math.min(100, 220 - 20 * (section + 1)));
            }
            check.same("100 again", desk.flow(), 100 * sign);
            check.same("99", desk.setFan(11, 9 * sign), 99 * sign);
            check.same("101", desk.setFan(0, -8 * sign), 100 * sign);
        }
    }

    /** "Each section holds an amount of smoke, 0 at first." */
    private static void noSmokeAtFirst() {
        TunnelControlDesk desk = Check.desk("tunnel 12 1;fire 5;");
        for (int section = 0; section < 12; section++) {
            check.same("smoke", desk.smoke(section), 0);
        }
        check.same("all smoke", desk.total(0), 0);
    }

    /** "... first strength percent of its smoke (rounded down) are removed if it has a vent." */
    private static void ventsRoundDown() {
        oneTick(99, 1, 0, 0, 0);
        oneTick(100, 1, 0, 1, 0);
        oneTick(199, 1, 0, 1, 0);
        oneTick(200, 1, 0, 2, 0);
        oneTick(1, 99, 0, 0, 0);
        oneTick(2, 99, 0, 1, 0);
        oneTick(1, 100, 0, 1, 0);
        oneTick(9999, 100, 0, 9999, 0);
        oneTick(9999, 99, 0, 9899, 0);
        oneTick(9999, 1, 0, 99, 0);
        oneTick(9999, 0, 0, 0, 0);
        oneTick(0, 100, 100, 0, 0);
        oneTick(3, 33, 0, 0, 0);
        oneTick(3, 34, 0, 1, 0);
    }

    /** "Then |flow| percent of the rest (rounded down) move to the next section." */
    private static void airRoundsDown() {
        for (int sign : BOTH) {
            oneTick(99, 0, sign, 0, 0);
            oneTick(100, 0, sign, 0, 1);
            oneTick(199, 0, sign, 0, 1);
            oneTick(200, 0, sign, 0, 2);
            oneTick(1, 0, 99 * sign, 0, 0);
            oneTick(2, 0, 99 * sign, 0, 1);
            oneTick(1, 0, 100 * sign, 0, 1);
            oneTick(9999, 0, 100 * sign, 0, 9999);
            oneTick(9999, 0, 99 * sign, 0, 9899);
        }
        oneTick(9999, 0, 0, 0, 0);
    }

    /** "first ... are removed ... Then ... of the rest": the air has what the vent leaves. */
    private static void ventsBeforeTheAir() {
        for (int sign : BOTH) {
            oneTick(100, 50, 50 * sign, 50, 25);
            oneTick(101, 50, 50 * sign, 50, 25);
            oneTick(102, 50, 50 * sign, 51, 25);
            oneTick(104, 50, 50 * sign, 52, 26);
            oneTick(100, 100, 100 * sign, 100, 0);
            oneTick(100, 99, 100 * sign, 99, 1);
            oneTick(100, 1, 1 * sign, 1, 0);
            oneTick(102, 1, 1 * sign, 1, 1);
        }
    }

    /** "to the east if the flow is positive and to the west if it is negative" */
    private static void directionOfTheAir() {
        oneTick(1000, 0, 1, 0, 10);
        oneTick(1000, 0, 0, 0, 0);
        oneTick(1000, 0, -1, 0, 10);
    }

    /** "at the end of the tunnel they leave it" */
    private static void smokeLeavesAtTheEnds() {
        for (int sign : BOTH) {
            for (int sections : new int[] {2, 12}) {
                int end = sign == 1 ? sections - 1 : 0;
                TunnelControlDesk desk = Check.desk("tunnel " + sections + " 1;rate 9;fire " + end + ";draft " + 100 * sign + ";");
                desk.run(1);
                check.same("nothing yet", desk.total(2), 0);
                desk.setFire(-1);
                desk.run(1);
                check.same("all is out", desk.total(2), 9);
                check.same("none inside", desk.total(1), 0);
                // Against the air it stays inside.
                desk = Check.desk("tunnel " + sections + " 1;rate 9;fire " + end + ";draft " + -100 * sign + ";");
                desk.run(2);
                check.same("nothing is out", desk.total(2), 0);
                check.same("all inside", desk.total(1), 18);
                check.same("moved", desk.smoke(end - sign), 9);
            }
        }
    }

    /** "... smoke that has moved into a section neither moves on nor is removed in this tick" */
    private static void allSectionsAtTheSameTime() {
        for (int sign : BOTH) {
            StringBuilder text = new StringBuilder("tunnel 12 1;rate 9;draft " + 100 * sign + ";fire " + at(12, sign, 0) + ";");
            for (int section = 0; section < 12; section++) {
                // The vents come too late for the smoke that has just moved.
                text.append(section == at(12, sign, 0) ? "" : "vent " + section + " 100;");
            }
            TunnelControlDesk desk = Check.desk(text.toString());
            desk.run(2);
            check.same("moved on once", desk.smoke(at(12, sign, 1)), 9);
            check.same("not twice", desk.smoke(at(12, sign, 2)), 0);
            check.same("not removed", desk.total(3), 0);
            desk.run(1);
            check.same("removed in its next tick", desk.total(3), 9);
            check.same("and not moved", desk.smoke(at(12, sign, 2)), 0);
            desk = Check.desk("tunnel 12 1;rate 9;draft " + 100 * sign + ";fire " + at(12, sign, 0) + ";");
            desk.run(13);
            for (int section = 0; section < 12; section++) {
                check.same("a row of smoke", desk.smoke(section), 9);
            }
            check.same("the first is out", desk.total(2), 9);
        }
    }

    /** "Then the smoke of the fire section, if there is one, increases by the rate": untouched by air and vent. */
    private static void freshSmokeStays() {
        for (int sign : BOTH) {
            TunnelControlDesk desk = Check.desk("tunnel 3 1;fire 1;rate 500;vent 1 100;draft " + 100 * sign + ";");
            desk.run(1);
            check.same("fresh smoke", desk.smoke(1), 500);
            desk.run(1);
            check.same("fresh smoke", desk.smoke(1), 500);
            check.same("removed", desk.total(3), 500);
            check.same("all", desk.total(0), 1000);
        }
    }

    private static void noFire() {
        TunnelControlDesk desk = Check.desk("tunnel 3 1;rate 500;");
        desk.run(100);
        check.same("no smoke without a fire", desk.total(0), 0);
        desk.setFire(0);
        desk.run(1);
        check.same("fire in section 0", desk.smoke(0), 500);
        desk.setFire(2);
        desk.run(1);
        check.same("only one section burns", desk.smoke(0), 500);
        check.same("fire in the last section", desk.smoke(2), 500);
    }

    /** "If there is no next section in the direction of the car, the car leaves the tunnel." */
    private static void carsLeaveAtTheEnds() {
        for (int sign : BOTH) {
            for (int sections : new int[] {2, 12}) {
                int last = at(sections, sign, sections - 1);
                // Neither signals nor the fire, nor a bay, hold it there.
                TunnelControlDesk desk = Check.desk("tunnel " + sections + " 1;bay " + last + ";fire " + last + ";red "
                        + last + " east;red " + last + " west;red 0 east;red 0 west;car " + last + way(sign));
                check.same("left", desk.run(1), 1);
                car("left", desk, 0, -1, sign);
                check.same("lane", desk.carsIn(last, sign), 0);
                check.same("inside", desk.inside(), 0);
                // One section before, it does not leave yet.
                desk = Check.desk("tunnel " + sections + " 1;car " + (last - sign) + way(sign));
                check.same("not yet left", desk.run(1), 0);
                car("not yet left", desk, 0, last, sign);
            }
        }
    }

    /** "A car that has left the tunnel does not come back." */
    private static void carsDoNotComeBack() {
        TunnelControlDesk desk = Check.desk("tunnel 2 1;car 0 west;car 1 east;fire 0;");
        check.same("left", desk.run(1), 2);
        check.same("left once", desk.run(100), 0);
        car("stays out", desk, 0, -1, -1);
        car("stays out", desk, 1, -1, 1);
        check.same("inside", desk.inside(), 0);
        check.same("clearingTime", desk.clearingTime(0), 0);
    }

    /** "Otherwise it moves to the next section if that is not the fire section ..." */
    private static void nextSectionBurns() {
        for (int sign : BOTH) {
            for (int fire = 2; fire < 12; fire++) {
                TunnelControlDesk desk = Check.desk("tunnel 12 1;fire " + at(12, sign, fire) + ";car " + at(12, sign, 1) + way(sign));
                desk.run(20);
                car("in front of the fire", desk, 0, at(12, sign, fire - 1), sign);
            }
            TunnelControlDesk desk = Check.desk("tunnel 3 1;fire " + at(3, sign, 1) + ";car " + at(3, sign, 0) + way(sign));
            desk.run(1);
            car("stays", desk, 0, at(3, sign, 0), sign);
            desk.setFire(-1);
            desk.run(1);
            car("no fire", desk, 0, at(3, sign, 1), sign);
        }
    }

    /** "(it is not its own section ...)": a car in the fire drives on, and does not turn. */
    private static void ownSectionBurns() {
        for (int sign : BOTH) {
            int middle = at(5, sign, 2);
            String text = "tunnel 5 1;fire " + middle + ";bay " + middle + ";car " + middle + way(sign);
            TunnelControlDesk desk = Check.desk(text);
            desk.run(1);
            car("drives on", desk, 0, middle + sign, sign);
            desk = Check.desk(text + "red " + (middle + sign) + way(sign));
            desk.run(3);
            car("does not turn", desk, 0, middle, sign);
        }
    }

    /** "... its signal for the direction is green ..." */
    private static void signalAhead() {
        for (int sign : BOTH) {
            int from = at(4, sign, 1);
            int to = from + sign;
            String text = "tunnel 4 1;car " + from + way(sign);
            TunnelControlDesk desk = Check.desk(text + "red " + to + way(sign));
            desk.run(1);
            car("red", desk, 0, from, sign);
            desk.setSignal(to, sign, false);
            desk.run(1);
            car("green", desk, 0, to, sign);
            // Only the next section's signal for this direction counts.
            desk = Check.desk(text + "red " + to + way(-sign) + "red " + from + way(sign) + "red " + from + way(-sign)
                    + "red " + (to + sign) + way(sign));
            desk.run(1);
            car("other signals", desk, 0, to, sign);
        }
    }

    /** "A lane has room if fewer cars are in it at that moment than the capacity." */
    private static void roomAhead() {
        for (int sign : BOTH) {
            int from = at(3, sign, 0);
            int to = at(3, sign, 1);
            for (int capacity = 1; capacity <= 4; capacity++) {
                for (int ahead = 0; ahead <= capacity; ahead++) {
                    String text = "tunnel 3 " + capacity + ";red " + at(3, sign, 2) + way(sign) + "car " + from + way(sign)
                            + ("car " + to + way(sign)).repeat(ahead) + ("car " + to + way(-sign)).repeat(capacity);
                    TunnelControlDesk desk = Check.desk(text);
                    desk.run(1);
                    car("capacity " + capacity + ", ahead " + ahead, desk, 0, ahead < capacity ? to : from, sign);
                    check.same("lane", desk.carsIn(to, sign), Math.min(capacity, ahead + 1));
                }
            }
        }
    }

    /** "The cars in east lanes are treated from east to west, ...; then the cars in west lanes ... from west to east." */
    private static void roomAtThatMoment() {
        for (int sign : BOTH) {
            StringBuilder text = new StringBuilder("tunnel 12 1;");
            for (int steps = 0; steps < 12; steps++) {
                text.append("car ").append(at(12, sign, steps)).append(way(sign));
            }
            TunnelControlDesk desk = Check.desk(text.toString());
            check.same("one leaves", desk.run(1), 1);
            for (int steps = 0; steps < 11; steps++) {
                car("a full lane moves on", desk, steps, at(12, sign, steps + 1), sign);
            }
            // A car moves one section a tick, although its new section is treated, too.
            desk = Check.desk("tunnel 12 1;car " + at(12, sign, 0) + way(sign));
            for (int steps = 1; steps < 12; steps++) {
                desk.run(1);
                car("one section a tick", desk, 0, at(12, sign, steps), sign);
            }
        }
    }

    /** "... those in the same section by increasing index" */
    private static void onePlaceForTwo() {
        for (int sign : BOTH) {
            String start = "tunnel 4 3;red " + at(4, sign, 3) + way(sign);
            String ahead = "car " + at(4, sign, 2) + way(sign);
            String behind = "car " + at(4, sign, 1) + way(sign);
            TunnelControlDesk desk = Check.desk(start + behind + ahead + behind + ahead + behind);
            desk.run(1);
            car("the smallest index", desk, 0, at(4, sign, 2), sign);
            car("the others wait", desk, 2, at(4, sign, 1), sign);
            car("the others wait", desk, 4, at(4, sign, 1), sign);
        }
    }

    /** "Such a car changes its direction if its section has an open bay ..." */
    private static void turningNeedsABay() {
        for (int sign : BOTH) {
            int place = at(5, sign, 2);
            String text = "tunnel 5 1;fire " + at(5, sign, 3) + ";car " + place + way(sign);
            TunnelControlDesk desk = Check.desk(text);
            desk.run(3);
            car("no bay", desk, 0, place, sign);
            desk = Check.desk(text + "bay " + place + ";");
            desk.setBay(place, false);
            desk.run(3);
            car("a closed bay", desk, 0, place, sign);
            desk.setBay(place, true);
            desk.run(1);
            car("an open bay", desk, 0, place, -sign);
            check.same("its old lane", desk.carsIn(place, sign), 0);
            check.same("its new lane", desk.carsIn(place, -sign), 1);
            // A bay beside it does not serve.
            desk = Check.desk(text + "bay " + (place - sign) + ";bay " + (place + sign) + ";");
            desk.run(3);
            car("bays beside it", desk, 0, place, sign);
        }
    }

    /** "... the fire section lies ahead of it (it is not its own section and lies in the direction of the car) ..." */
    private static void turningNeedsTheFireAhead() {
        for (int sign : BOTH) {
            for (int place = 0; place < 11; place++) {
                int section = at(12, sign, place);
                String text = "tunnel 12 1;bay " + section + ";car " + section + way(sign) + "red " + (section + sign) + way(sign);
                for (int fire = -1; fire < 12; fire++) {
                    TunnelControlDesk desk = Check.desk(text + (fire < 0 ? "" : "fire " + at(12, sign, fire) + ";"));
                    desk.run(1);
                    car("place " + place + ", fire " + fire, desk, 0, section, fire > place ? -sign : sign);
                }
            }
        }
    }

    /** "... and the other lane of its section has room." */
    private static void turningNeedsRoom() {
        for (int sign : BOTH) {
            int place = at(4, sign, 1);
            for (int capacity = 1; capacity <= 4; capacity++) {
                for (int others = 0; others <= capacity; others++) {
                    TunnelControlDesk desk = Check.desk("tunnel 4 " + capacity + ";bay " + place + ";fire " + at(4, sign, 2)
                            + ";red " + at(4, sign, 0) + way(-sign) + "car " + place + way(sign)
                            + ("car " + place + way(-sign)).repeat(others));
                    desk.run(1);
                    boolean turns = others < capacity;
                    car("capacity " + capacity + ", others " + others, desk, 0, place, turns ? -sign : sign);
                    check.same("other lane", desk.carsIn(place, -sign), others + (turns ? 1 : 0));
                }
            }
            // The other car leaves in step 2, and so there is room in step 3.
            TunnelControlDesk desk = Check.desk("tunnel 4 1;bay " + place + ";fire " + at(4, sign, 2) + ";car " + place + way(sign)
                    + "car " + place + way(-sign));
            desk.run(1);
            car("room by then", desk, 0, place, -sign);
        }
    }

    /** "(3) Turning. The cars ... are treated by increasing index." */
    private static void onePlaceForTwoThatTurn() {
        for (int sign : BOTH) {
            int place = at(4, sign, 1);
            TunnelControlDesk desk = Check.desk("tunnel 4 2;bay " + place + ";fire " + at(4, sign, 2) + ";red " + at(4, sign, 0)
                    + way(-sign) + "car " + place + way(-sign) + "car " + place + way(sign) + "car " + place + way(sign));
            desk.run(1);
            car("the smaller index", desk, 1, place, -sign);
            car("the greater index", desk, 2, place, sign);
            // With a place for each, both turn in the same tick.
            desk = Check.desk("tunnel 4 2;bay " + place + ";fire " + at(4, sign, 2) + ";car " + place + way(sign)
                    + "car " + place + way(sign));
            desk.run(1);
            car("both", desk, 0, place, -sign);
            car("both", desk, 1, place, -sign);
        }
    }

    /** "The cars inside that stayed in step (2)": for the fire, a signal, or want of room. */
    private static void whateverStopsACar() {
        for (int sign : BOTH) {
            int place = at(6, sign, 1);
            int next = place + sign;
            String bay = "tunnel 6 1;bay " + place + ";car " + place + way(sign);
            String farFire = "fire " + at(6, sign, 5) + ";";
            TunnelControlDesk desk = Check.desk(bay + "fire " + next + ";");
            desk.run(1);
            car("the fire", desk, 0, place, -sign);
            desk = Check.desk(bay + farFire + "red " + next + way(sign));
            desk.run(1);
            car("a signal", desk, 0, place, -sign);
            desk = Check.desk(bay + farFire + "car " + next + way(sign) + "red " + (next + sign) + way(sign));
            desk.run(1);
            car("no room", desk, 0, place, -sign);
            desk = Check.desk(bay + farFire);
            desk.run(1);
            car("nothing", desk, 0, next, sign);
        }
    }

    private static void onlyCarsThatStayedTurn() {
        for (int sign : BOTH) {
            int place = at(5, sign, 2);
            TunnelControlDesk desk = Check.desk("tunnel 5 1;bay " + place + ";fire " + at(5, sign, 3) + ";car "
                    + at(5, sign, 1) + way(sign));
            desk.run(1);
            car("moved in, not turned", desk, 0, place, sign);
            desk.run(1);
            car("stayed, turned", desk, 0, place, -sign);
            desk.run(1);
            car("drives back", desk, 0, at(5, sign, 1), -sign);
            check.same("left", desk.run(2), 1);
            car("left, with its last direction", desk, 0, -1, -sign);
        }
    }

    /** "(4) The exposure of each car inside increases by the smoke of its section." */
    private static void exposureOfCarsInside() {
        TunnelControlDesk desk = Check.desk("tunnel 3 2;fire 2;rate 50;car 2 west;car 2 west;car 0 east;red 1 west;red 1 east;car 2 east;");
        desk.run(1);
        check.same("two cars in the smoke", desk.exposure(0), 50);
        check.same("two cars in the smoke", desk.exposure(1), 50);
        check.same("no smoke, no exposure", desk.exposure(2), 0);
        check.same("it has left in this very tick", desk.exposure(3), 0);
        desk.run(1);
        check.same("exposure increases", desk.exposure(0), 150);
        check.same("it has left", desk.exposure(3), 0);
        desk.setSignal(1, -1, false);
        desk.run(1);
        check.same("out of the smoke", desk.exposure(0), 150);
    }

    /** Smoke moves before the cars do, and a car has the smoke of the section that it is in at the end. */
    private static void exposureComesAfterTurning() {
        for (int sign : BOTH) {
            int fire = at(4, sign, 2);
            TunnelControlDesk desk = Check.desk("tunnel 4 1;fire " + fire + ";rate 50;draft " + -100 * sign + ";bay "
                    + (fire - sign) + ";car " + (fire - 2 * sign) + way(sign));
            desk.run(1);
            check.same("none has come yet", desk.exposure(0), 0);
            desk.run(1);
            car("turned", desk, 0, fire - sign, -sign);
            check.same("smoke of its section", desk.exposure(0), 50);
            desk.run(1);
            car("driven back into the smoke", desk, 0, fire - 2 * sign, -sign);
            check.same("smoke of its new section", desk.exposure(0), 100);
            desk.run(1);
            check.same("none outside", desk.exposure(0), 100);
        }
    }

    /** "(5) The clock increases by 1." */
    private static void clockIncreasesByOne() {
        TunnelControlDesk desk = Check.desk("tunnel 2 1;");
        for (int clock = 1; clock <= 100; clock++) {
            desk.run(1);
            check.same("clock", desk.clock(), clock);
        }
        desk.run(100);
        check.same("clock", desk.clock(), 200);
    }
}
