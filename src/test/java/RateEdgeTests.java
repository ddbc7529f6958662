/** Each sentence on the rate that names a boundary (the section "Rate" and promise 9). */
public final class RateEdgeTests {
    private static final String BILLION = "1000*1000*1000";
    /** 1000000001, as 52579 * 19019. */
    private static final String BILLION_AND_1 = "(9999*5+2584)*(9999+9020)";
    /** 999999999, as 999 * 1001001. */
    private static final String BILLION_LESS_1 = "999*(1000*1001+1)";

    private static final Check check = new Check("RateEdgeTests");

    public static void main(String[] args) {
        limitsOfTheRate();
        limitsOfTheRateInATick();
        limitsOfSums();
        limitsOfDifferences();
        limitsOfProducts();
        limitsOfQuotients();
        limitOfEachOperation();
        truncation();
        divisionByZero();
        valuesOfClock();
        valuesOfCars();
        valuesOfFlow();
        orderOfOperations();
        usualRate();
        noFireOrTunnel();
        beginningOfTheTick();
        check.finish();
    }

    private static void rateIs(String expression, int due) {
        TunnelControlDesk desk = Check.desk("tunnel 2 1;fire 0;rate " + expression + ";");
        check.same("rate " + expression, desk.rate(), due);
        if (!expression.contains("clock")) {
            // Numbers mean the same at any time, and with any number of cars.
            desk.run(3);
            check.same("rate " + expression + " at clock 3", desk.rate(), due);
            check.same("rate " + expression + " of the tick", desk.smoke(0), 3L * due);
        }
    }

    /** The value of the expression, less 999999995. */
    private static void highIs(String expression, int due) {
        rateIs("(" + expression + ")-(" + BILLION + "-5)", due);
    }

    /** The value of the expression, and 1000000005 more. */
    private static void lowIs(String expression, int due) {
        rateIs("(" + expression + ")+" + BILLION + "+5", due);
    }

    /** "The rate of a tick is the value of the rate expression ..., limited to the range 0 to 9999." */
    private static void limitsOfTheRate() {
        rateIs("0", 0);
        rateIs("1", 1);
        rateIs("9998", 9998);
        rateIs("9999", 9999);
        rateIs("9998+1", 9999);
        rateIs("9999+1", 9999);
        rateIs("9999+2", 9999);
        rateIs(BILLION, 9999);
        rateIs("1-1", 0);
        rateIs("0-1", 0);
        rateIs("0-2", 0);
        rateIs("0-" + BILLION, 0);
        // Only the value of the whole is limited to 0 to 9999.
        rateIs("9999+9999-9999-9998", 1);
        rateIs("0-5+6", 1);
        rateIs("(0-5)*(0-6)", 30);
        rateIs("(9999+1)/2", 5000);
    }

    private static void limitsOfTheRateInATick() {
        TunnelControlDesk desk = Check.desk("tunnel 2 1;fire 0;rate 9999+1;");
        desk.run(1);
        check.same("smoke at the highest rate", desk.smoke(0), 9999);
        desk = Check.desk("tunnel 2 1;fire 0;rate 5-clock*5;");
        desk.run(3);
        check.same("smoke, no rate below 0", desk.smoke(0), 5);
        check.same("total", desk.total(0), 5);
    }

    /** "The result of each operation is limited to the range -1000000000 to 1000000000." */
    private static void limitsOfSums() {
        highIs("(" + BILLION + "-1)+0", 4);
        highIs("(" + BILLION + "-1)+1", 5);
        highIs(BILLION + "+0", 5);
        highIs(BILLION + "+1", 5);
        highIs(BILLION + "+2", 5);
        highIs(BILLION + "+" + BILLION, 5);
        lowIs("(0-" + BILLION + ")+1", 6);
        lowIs("(0-" + BILLION + ")+0", 5);
        lowIs("(0-" + BILLION + ")+(0-1)", 5);
        lowIs("(0-" + BILLION + ")+(0-" + BILLION + ")", 5);
    }

    private static void limitsOfDifferences() {
        highIs(BILLION + "-1", 4);
        highIs(BILLION + "-0", 5);
        highIs(BILLION + "-(0-1)", 5);
        highIs(BILLION + "-(0-" + BILLION + ")", 5);
        lowIs("0-" + BILLION + "-(0-1)", 6);
        lowIs("0-" + BILLION, 5);
        lowIs("0-" + BILLION + "-0", 5);
        lowIs("0-" + BILLION + "-1", 5);
        lowIs("0-" + BILLION + "-" + BILLION, 5);
    }

    private static void limitsOfProducts() {
        highIs(BILLION_LESS_1, 4);
        highIs(BILLION, 5);
        highIs(BILLION_AND_1, 5);
        highIs(BILLION + "*2", 5);
        highIs(BILLION + "*(" + BILLION + ")", 5);
        highIs("(0-" + BILLION + ")*(0-" + BILLION + ")", 5);
        lowIs("(0-999)*(1000*1001+1)", 6);
        lowIs("(0-1000)*1000*1000", 5);
        lowIs("(0-(9999*5+2584))*(9999+9020)", 5);
        lowIs("(0-" + BILLION + ")*(" + BILLION + ")", 5);
        lowIs(BILLION + "*(0-" + BILLION + ")", 5);
    }

    private static void limitsOfQuotients() {
        highIs(BILLION + "/1", 5);
        highIs("(0-" + BILLION + ")/(0-1)", 5);
        highIs("(" + BILLION_LESS_1 + ")/1", 4);
        lowIs("(0-" + BILLION + ")/1", 5);
        lowIs(BILLION + "/(0-1)", 5);
        rateIs(BILLION + "/1000/1000/1000", 1);
    }

    /** Not only the whole: what is limited within it can no more come back. */
    private static void limitOfEachOperation() {
        rateIs(BILLION + "+7-" + BILLION, 0);
        rateIs(BILLION + "-" + BILLION + "+7", 7);
        rateIs("0-" + BILLION + "-7+" + BILLION, 0);
        rateIs(BILLION + "*7/1000/1000", 1000);
        rateIs(BILLION + "*7/7/1000/1000", 142);
        rateIs("(0-" + BILLION + "*7)/(0-7)/1000/1000", 142);
        rateIs("9999*9999*9999*9999/9999/9999", 10);
    }

    /** "Division truncates toward zero." */
    private static void truncation() {
        rateIs("50+6/3", 52);
        rateIs("50+7/3", 52);
        rateIs("50+8/3", 52);
        rateIs("50+1/2", 50);
        rateIs("50+(0-6)/3", 48);
        rateIs("50+(0-7)/3", 48);
        rateIs("50+(0-8)/3", 48);
        rateIs("50+(0-1)/2", 50);
        rateIs("50+(0-1)/9999", 50);
        rateIs("50+7/(0-3)", 48);
        rateIs("50+8/(0-3)", 48);
        rateIs("50+1/(0-2)", 50);
        rateIs("50+(0-7)/(0-3)", 52);
        rateIs("50+(0-8)/(0-3)", 52);
    }

    /** "... division by 0 gives 0." */
    private static void divisionByZero() {
        rateIs("50+0/0", 50);
        rateIs("50+1/0", 50);
        rateIs("50+(0-1)/0", 50);
        rateIs("50+" + BILLION + "/0", 50);
        rateIs("50+9/clock", 50);
        rateIs("50+9/cars", 50);
        rateIs("50+9/flow", 50);
        rateIs("50+9/(1/2)", 50);
        rateIs("50+9/(3-3)*7", 50);
        rateIs("50+9/0/0", 50);
        rateIs("50+9/1", 59);
        rateIs("50+9/(0-1)", 41);
        rateIs("9/0", 0);
    }

    /** "In the expression, clock is the clock ..." */
    private static void valuesOfClock() {
        TunnelControlDesk desk = Check.desk("tunnel 2 1;fire 0;rate clock;");
        check.same("clock 0", desk.rate(), 0);
        desk.run(1);
        check.same("clock 1", desk.rate(), 1);
        desk.run(98);
        for (int i = 0; i < 99; i++) {
            desk.run(100);
        }
        check.same("clock 9999", desk.rate(), 9999);
        desk.run(1);
        check.same("clock 10000", desk.rate(), 9999);
        check.same("the last tick's rate", desk.smoke(0), 9999L * 10000 / 2);
        desk = Check.desk("tunnel 2 1;fire 0;rate clock-1;");
        desk.run(100);
        for (int i = 0; i < 99; i++) {
            desk.run(100);
        }
        check.same("clock 10000 less 1", desk.rate(), 9999);
    }

    /** "... cars is the number of cars inside ..." */
    private static void valuesOfCars() {
        check.same("no cars", Check.desk("tunnel 2 1;fire 0;rate 70+cars;").rate(), 70);
        StringBuilder text = new StringBuilder("tunnel 12 1;fire 0;rate 70+cars;");
        for (int car = 0; car < 20; car++) {
            text.append("car ").append(car / 2).append(car % 2 == 0 ? " east;" : " west;");
        }
        TunnelControlDesk desk = Check.desk(text.toString());
        check.same("20 cars", desk.rate(), 90);
        desk.run(1);
        check.same("inside", desk.inside(), 19);
        check.same("those that have left count no more", desk.rate(), 89);
    }

    /** "... and flow is the flow": with its limits. */
    private static void valuesOfFlow() {
        check.same("highest", Check.desk("tunnel 2 1;fire 0;rate 500+flow;draft 100;fan 0 10;").rate(), 600);
        check.same("lowest", Check.desk("tunnel 2 1;fire 0;rate 500+flow;draft -100;fan 0 -10;").rate(), 400);
        check.same("none", Check.desk("tunnel 2 1;fire 0;rate 500+flow;").rate(), 500);
        check.same("below 0", Check.desk("tunnel 2 1;fire 0;rate flow;draft -1;").rate(), 0);
    }

    /** "sum = term { ( "+" | "-" ) term }", "term = factor { ( "*" | "/" ) factor }": from left to right. */
    private static void orderOfOperations() {
        rateIs("100-10-1", 89);
        rateIs("100-10+1", 91);
        rateIs("100/10/5", 2);
        rateIs("100/10*5", 50);
        rateIs("100*10/3", 333);
        rateIs("100*(10/3)", 300);
        rateIs("100-2*3", 94);
        rateIs("(100-2)*3", 294);
        rateIs("7*3-2*5+8/3", 13);
        rateIs("1+1*(1+1*(1+1*(1+1*(1+1*5))))", 10);
        rateIs("50-2*(8-2*(7-2*(6-2*(5-2*2))))", 30);
    }

    /** "Without a rate statement the rate is 100." */
    private static void usualRate() {
        TunnelControlDesk desk = Check.desk("tunnel 2 1;fire 1;draft -100;");
        check.same("usual rate", desk.rate(), 100);
        desk.run(1);
        check.same("usual smoke", desk.smoke(1), 100);
        check.same("not after another text's rate", Check.load(desk, "tunnel 2 1;fire 1;rate 7;"), 0);
        check.same("rate", desk.rate(), 7);
        Check.load(desk, "tunnel 2 1;fire 1;");
        check.same("usual rate again", desk.rate(), 100);
        desk.undo();
        check.same("undone", desk.rate(), 7);
        // A text with an error does not touch the rate.
        Check.load(desk, "tunnel 2 1;fire 1;rate 8;x");
        check.same("after an error", desk.rate(), 7);
    }

    /** Promise 9: "... 0 without a fire or a tunnel." */
    private static void noFireOrTunnel() {
        TunnelControlDesk desk = new TunnelControlDesk();
        check.same("no tunnel", desk.rate(), 0);
        Check.load(desk, "tunnel 2 1;rate 55;");
        check.same("no fire", desk.rate(), 0);
        desk.setFire(1);
        check.same("a fire", desk.rate(), 55);
        desk.setFire(0);
        check.same("a fire in section 0", desk.rate(), 55);
        desk.setFire(-1);
        check.same("no fire", desk.rate(), 0);
    }

    /** "The rate of a tick is the value of the rate expression at the beginning of the tick." */
    private static void beginningOfTheTick() {
        TunnelControlDesk desk = Check.desk("tunnel 2 1;fire 0;rate clock*100+cars;car 0 west;car 1 east;");
        check.same("before the tick", desk.rate(), 2);
        desk.run(1);
        check.same("smoke", desk.smoke(0), 2);
        check.same("inside", desk.inside(), 0);
        check.same("before the next", desk.rate(), 100);
        desk.run(1);
        check.same("smoke", desk.smoke(0), 102);
    }
}
