/** The grammar of the setup text and its errors (promises 3 and 4). */
public final class SetupTextTests {
    private static final int SYNTAX = TunnelControlDesk.SYNTAX_ERROR;
    private static final int RANGE = TunnelControlDesk.OUT_OF_RANGE;
    private static final int MANY = TunnelControlDesk.TOO_MANY;
    private static final int DEEP = TunnelControlDesk.TOO_DEEP;

    private static final Check check = new Check("SetupTextTests");

    public static void main(String[] args) {
        headers();
        tokens();
        bays();
        vents();
        fans();
        cars();
        firesAndDrafts();
        signals();
        rates();
        rateValues();
        longTexts();
        firstErrors();
        everyStatementTogether();
        check.finish();
    }

    private static void error(String marked, int code) {
        check.textError(marked, code);
    }

    private static void good(String text, int cars) {
        check.textGood(text, cars);
    }

    private static void headers() {
        good("tunnel 2 1;", 0);
        good("tunnel 12 4;", 0);
        error("^", SYNTAX);
        error("   ^", SYNTAX);
        error("^;", SYNTAX);
        error("^tunne 3 1;", SYNTAX);
        error("^tunnels 3 1;", SYNTAX);
        error("^Tunnel 3 1;", SYNTAX);
        error("^car 0 east;", SYNTAX);
        error("^3 1;", SYNTAX);
        error("tunnel^", SYNTAX);
        error("tunnel ^;", SYNTAX);
        error("tunnel ^-3 1;", SYNTAX);
        error("tunnel ^three 1;", SYNTAX);
        error("tunnel ^1 1;", RANGE);
        error("tunnel ^0 1;", RANGE);
        error("tunnel ^13 1;", RANGE);
        error("tunnel 3^", SYNTAX);
        error("tunnel 3 ^;", SYNTAX);
        error("tunnel 3 ^0;", RANGE);
        error("tunnel 3 ^5;", RANGE);
        error("tunnel 3 1^", SYNTAX);
        error("tunnel 3 1   ^", SYNTAX);
        error("tunnel 3 1 ^1;", SYNTAX);
        error("tunnel 3 1;^;", SYNTAX);
        error("tunnel 3 1;^tunnel 3 1;", SYNTAX);
    }

    private static void tokens() {
        good("tunnel3 1;", 0);
        good("tunnel 003 0001;", 0);
        good("  tunnel  3  1  ;  ", 0);
        good("tunnel 3 1;bay0;car0east;fan 1-5;", 1);
        good("tunnel 3 1;draft - 5;", 0);
        good("tunnel 3 1;draft -0;", 0);
        error("tunnel ^31;", RANGE);
        error("tunnel ^99999999999999999999999 1;", RANGE);
        error("tunnel ^4294967299 1;", RANGE);
        error("tunnel 3 ^18446744073709551617;", RANGE);
        good("tunnel 0000000000000000000000000000003 1;", 0);
        error("tunnel^\t3 1;", SYNTAX);
        error("tunnel 3^\n1;", SYNTAX);
        error("tunnel 3 1;^\n", SYNTAX);
        error("tunnel 3 1;^\0", SYNTAX);
        error("tunnel 3 1;^\u00ff", SYNTAX);
        error("tunnel 3 1;^\u0080bay 0;", SYNTAX);
        error("tunnel 3 1;^{", SYNTAX);
        error("tunnel 3 1;^`", SYNTAX);
        error("tunnel 3 1;bay ^/0;", SYNTAX);
        error("tunnel 3 1;bay ^:0;", SYNTAX);
        error("tunnel 3 1;^bayy 0;", SYNTAX);
        error("tunnel 3 1;^bayz 0;", SYNTAX);
        error("tunnel 3 1;^baya 0;", SYNTAX);
        error("tunnel 3 1;^cay 0;", SYNTAX);
        error("tunnel 3 1;^bas 0;", SYNTAX);
        error("tunnel 3 1;^gate 1;", SYNTAX);
        error("tunnel 3 1;^ba 0;", SYNTAX);
        error("tunnel 3 1;^bAy 0;", SYNTAX);
        error("tunnel 3 1;^east;", SYNTAX);
        error("tunnel 3 1;^0;", SYNTAX);
        error("tunnel 3 1;bay 0^", SYNTAX);
        error("tunnel 3 1;bay 0  ^", SYNTAX);
        error("tunnel 3 1;bay 0^,", SYNTAX);
    }

    private static void bays() {
        good("tunnel 3 1;bay 2;bay 0;bay 1;", 0);
        error("tunnel 3 1;bay ^3;", RANGE);
        error("tunnel 3 1;bay ^-1;", SYNTAX);
        error("tunnel 3 1;bay^", SYNTAX);
        error("tunnel 3 1;bay ^;", SYNTAX);
        error("tunnel 3 1;bay 0 ^1;", SYNTAX);
        error("tunnel 3 1;bay 0;bay ^0;", RANGE);
        error("tunnel 3 1;bay 0;bay ^00", RANGE);
        good("tunnel 12 1;bay 0;bay 2;bay 4;bay 6;bay 8;bay 10;", 0);
        error("tunnel 12 1;bay 0;bay 2;bay 4;bay 6;bay 8;bay 10; ^bay 11;", MANY);
        error("tunnel 12 1;bay 0;bay 2;bay 4;bay 6;bay 8;bay 10;^bay 0;", MANY);
        error("tunnel 12 1;bay 0;bay 2;bay 4;bay 6;bay 8;bay 10;^bay", MANY);
        error("tunnel 12 1;bay 0;bay 2;bay 4;bay 6;bay 8;bay 10;^bays 1;", SYNTAX);
    }

    private static void vents() {
        good("tunnel 3 1;vent 0 1;vent 1 100;vent 2 50;", 0);
        error("tunnel 3 1;vent ^3 5;", RANGE);
        error("tunnel 3 1;vent 0 ^0;", RANGE);
        error("tunnel 3 1;vent 0 ^101;", RANGE);
        error("tunnel 3 1;vent 0 ^-5;", SYNTAX);
        error("tunnel 3 1;vent 0 ^;", SYNTAX);
        error("tunnel 3 1;vent 0 5;vent ^0 5;", RANGE);
        error("tunnel 3 1;vent 0 5;vent ^0 0;", RANGE);
        error("tunnel 3 1;vent 0 5;vent ^0", RANGE);
    }

    private static void fans() {
        good("tunnel 3 1;fan 0 10;fan 1 -10;fan 2 0;", 0);
        error("tunnel 3 1;fan ^3 0;", RANGE);
        error("tunnel 3 1;fan 0 ^11;", RANGE);
        error("tunnel 3 1;fan 0 -^11;", RANGE);
        error("tunnel 3 1;fan 0 -  ^11;", RANGE);
        error("tunnel 3 1;fan 0 -^;", SYNTAX);
        error("tunnel 3 1;fan 0 -^-1;", SYNTAX);
        error("tunnel 3 1;fan 0 ^+1;", SYNTAX);
        error("tunnel 3 1;fan 0 ^;", SYNTAX);
        error("tunnel 3 1;fan 0 0;fan ^0 0;", RANGE);
        error("tunnel 3 1;fan 0 0;fan ^0 x", RANGE);
        good("tunnel 3 1;fan 0 0;vent 0 1;bay 0;", 0);
    }

    private static void cars() {
        good("tunnel 3 1;car 0 east;car 0 west;car 2 west;", 3);
        error("tunnel 3 1;car ^3 east;", RANGE);
        error("tunnel 3 1;car ^3 north;", RANGE);
        error("tunnel 3 1;car 0 ^north;", SYNTAX);
        error("tunnel 3 1;car 0 ^easts;", SYNTAX);
        error("tunnel 3 1;car 0 ^eas;", SYNTAX);
        error("tunnel 3 1;car 0 ^1;", SYNTAX);
        error("tunnel 3 1;car 0^", SYNTAX);
        error("tunnel 3 1;car 0 east;car ^0 east;", RANGE);
        error("tunnel 3 1;car 0 east;car ^0 east", RANGE);
        error("tunnel 3 1;car 0 east;car ^0 east !", RANGE);
        error("tunnel 3 1;car 0 east;car 0 ^north;", SYNTAX);
        error("tunnel 3 1;car 0 east;car 0^", SYNTAX);
        good("tunnel 3 4;car 1 west;car 1 west;car 1 west;car 1 west;car 1 east;", 5);
        error("tunnel 3 4;car 1 west;car 1 west;car 1 west;car 1 west;car ^1 west;", RANGE);
        String twenty = "tunnel 12 2;";
        for (int i = 0; i < 20; i++) {
            twenty += "car " + i / 2 + (i % 2 == 0 ? " west;" : " east;");
        }
        good(twenty, 20);
        error(twenty + "^car 11 east;", MANY);
        error(twenty + "^car 99 east;", MANY);
        error(twenty + "^car", MANY);
        error(twenty + "^cars", SYNTAX);
    }

    private static void firesAndDrafts() {
        good("tunnel 3 1;fire 2;draft 100;", 0);
        good("tunnel 3 1;draft -100;fire 0;", 0);
        error("tunnel 3 1;fire ^3;", RANGE);
        error("tunnel 3 1;fire ^-1;", SYNTAX);
        error("tunnel 3 1;fire 0;^fire 1;", SYNTAX);
        error("tunnel 3 1;fire 0;^fire 9;", SYNTAX);
        error("tunnel 3 1;draft ^101;", RANGE);
        error("tunnel 3 1;draft -^101;", RANGE);
        error("tunnel 3 1;draft ^;", SYNTAX);
        error("tunnel 3 1;draft 0; ^draft 0;", SYNTAX);
        error("tunnel 3 1;draft 0;^draft", SYNTAX);
        check.same("flow of draft -100", Check.desk("tunnel 3 1;draft -100;").flow(), -100);
        check.same("flow of draft 100", Check.desk("tunnel 3 1;draft 100;").flow(), 100);
        check.same("flow of no draft", Check.desk("tunnel 3 1;").flow(), 0);
    }

    private static void signals() {
        good("tunnel 3 1;red 0 east;red 0 east;red 0 west;red 2 west;", 0);
        error("tunnel 3 1;red ^3 east;", RANGE);
        error("tunnel 3 1;red 0 ^;", SYNTAX);
        error("tunnel 3 1;red 0 ^green;", SYNTAX);
        error("tunnel 3 1;red ^east;", SYNTAX);
    }

    private static void rates() {
        good("tunnel 3 1;rate 0;", 0);
        good("tunnel 3 1;rate 9999;", 0);
        error("tunnel 3 1;rate ^10000;", RANGE);
        error("tunnel 3 1;rate 1+^10000;", RANGE);
        error("tunnel 3 1;rate (2*^99999999999);", RANGE);
        error("tunnel 3 1;rate ^;", SYNTAX);
        error("tunnel 3 1;rate^", SYNTAX);
        error("tunnel 3 1;rate ^-1;", SYNTAX);
        error("tunnel 3 1;rate 1+^;", SYNTAX);
        error("tunnel 3 1;rate 1*^;", SYNTAX);
        error("tunnel 3 1;rate 1*^/2;", SYNTAX);
        error("tunnel 3 1;rate 1 ^2;", SYNTAX);
        error("tunnel 3 1;rate 1^);", SYNTAX);
        error("tunnel 3 1;rate 1 ^(2);", SYNTAX);
        error("tunnel 3 1;rate (1^;", SYNTAX);
        error("tunnel 3 1;rate (^);", SYNTAX);
        error("tunnel 3 1;rate ((1)^;", SYNTAX);
        error("tunnel 3 1;rate ((1)^", SYNTAX);
        error("tunnel 3 1;rate ^smoke;", SYNTAX);
        error("tunnel 3 1;rate ^clocks;", SYNTAX);
        error("tunnel 3 1;rate ^car;", SYNTAX);
        error("tunnel 3 1;rate clock ^cars;", SYNTAX);
        error("tunnel 3 1;rate 1^%2;", SYNTAX);
        good("tunnel 3 1;rate ((((1))));", 0);
        good("tunnel 3 1;rate ((((1))))+((((1))));", 0);
        error("tunnel 3 1;rate ((((^(1)))));", DEEP);
        error("tunnel 3 1;rate ((((^(", DEEP);
        error("tunnel 3 1;rate 1+(1+(1+(1+(1+^(1)))));", DEEP);
        error("tunnel 3 1;rate ((((1^(1)))));", SYNTAX);
        error("tunnel 3 1;rate 1;^rate 1;", SYNTAX);
        error("tunnel 3 1;rate 1;^rate ((((((", SYNTAX);
    }

    private static void rateIs(String expression, int due) {
        TunnelControlDesk desk = Check.desk("tunnel 4 2;fire 3;draft -7;car 0 east;car 0 west;car 1 east;rate "
                + expression + ";");
        check.same("rate " + expression, desk.rate(), due);
    }

    private static void rateValues() {
        rateIs("0", 0);
        rateIs("9999", 9999);
        rateIs("9999+1", 9999);
        rateIs("1-2", 0);
        rateIs("1+2*3", 7);
        rateIs("(1+2)*3", 9);
        rateIs("10-3-2", 5);
        rateIs("10-(3-2)", 9);
        rateIs("100/7/2", 7);
        rateIs("100/(7/2)", 33);
        rateIs("2*3/4*5", 5);
        rateIs("7/0", 0);
        rateIs("5+7/(cars-3)", 5);
        rateIs("cars", 3);
        rateIs("clock+cars", 3);
        rateIs("50+flow", 43);
        // Truncation toward zero: -7 / 2 is -3, and 7 / -2, too.
        rateIs("50+flow/2", 47);
        rateIs("50+7/(0-2)", 47);
        rateIs("(0-7)/(0-2)", 3);
        // Each operation is limited by itself: 1000000000 - 999800001 ...
        rateIs("9999*9999*9999/9999", 9999);
        rateIs("9999*9999*9999/9999/20", 5000);
        rateIs("9999*9999*9999*9999/9999/9999", 10);
        rateIs("(9999*9999*9999-1)/9999/9999", 10);
        rateIs("(0-9999)*9999*9999*9999/9999/(0-9999)", 10);
        rateIs("((0-9999)*9999*9999-9999+9999)/9999/(0-9999)", 10);
        rateIs("(9999*9999*9999+9999*9999*9999-9999*9999*9999)/9999", 0);
        rateIs("(9999*9999*9999-9999*9999*9999+9999*9999)/9999", 9999);
        rateIs("9999*9999*9999/1000/1000", 1000);
        rateIs("1+1*(1+1*(1+1*(1+1*(1+1*5))))", 10);
        rateIs(" ( ( cars ) ) - ( clock ) ", 3);
    }

    /** Texts that fill the buffer. */
    private static void longTexts() {
        for (String sign : new String[] {"+1", "*1", "/1", "-0"}) {
            String text = "tunnel 2 1;fire 0;rate 9";
            int signs = 0;
            while (text.length() < 798) {
                text += sign;
                signs++;
            }
            check.same("rate of many " + sign, Check.desk(text + ";").rate(), sign.equals("+1") ? 9 + signs : 9);
        }
        String text = "tunnel 2 1";
        while (text.length() < 790) {
            text += ";red 1west";
        }
        error(text + "^", SYNTAX);
        good(text + ";", 0);
        error(text + ";        ^!", SYNTAX);
        good("tunnel 2 " + "0".repeat(789) + "1;", 0);
        error("tunnel 2 ^" + "9".repeat(790) + ";", RANGE);
        error("^" + "a".repeat(800), SYNTAX);
        error(" ".repeat(800) + "^", SYNTAX);
    }

    /** Of several errors, the one with the smallest offset counts. */
    private static void firstErrors() {
        error("tunnel ^1 9;bay 99", RANGE);
        error("tunnel 3 1;bay ^3", RANGE);
        error("tunnel 3 1;car 0 east;car ^0 east;car 0 east;x", RANGE);
        error("tunnel 3 1;vent ^7 0;", RANGE);
        error("tunnel 3 1;fire 1;^x;fire 2;", SYNTAX);
    }

    private static void everyStatementTogether() {
        TunnelControlDesk desk = Check.desk("tunnel 6 2;bay 4;vent 1 30;fan 2 -4;car 5 west;fire 3;"
                + "draft 6;red 0 east;rate clock+8;car 5 west;fan 0 1;");
        check.same("sections", desk.sectionCount(), 6);
        check.same("cars", desk.carCount(), 2);
        check.same("bay 4", desk.bay(4), 1);
        check.same("bay 3", desk.bay(3), -1);
        check.same("fan 2", desk.fan(2), -4);
        check.same("fan 0", desk.fan(0), 1);
        check.same("flow", desk.flow(), 3);
        check.same("fire", desk.fireSection(), 3);
        check.yes("red 0 east", desk.isRed(0, 1));
        check.no("red 0 west", desk.isRed(0, -1));
        check.same("rate", desk.rate(), 8);
        check.same("lane 5 west", desk.carsIn(5, -1), 2);
        check.same("lane 5 east", desk.carsIn(5, 1), 0);
    }
}
