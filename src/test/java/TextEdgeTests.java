/** Each sentence on the setup text that names a boundary, in the document's order (promises 3 and 4). */
public final class TextEdgeTests {
    private static final int SYNTAX = TunnelControlDesk.SYNTAX_ERROR;
    private static final int RANGE = TunnelControlDesk.OUT_OF_RANGE;
    private static final int MANY = TunnelControlDesk.TOO_MANY;
    private static final int DEEP = TunnelControlDesk.TOO_DEEP;

    private static final String[] STATEMENTS = {"bay", "vent", "fan", "car", "fire", "red"};
    private static final String[] AFTER_SECTION = {"", " 1", " 1", " east", "", " west"};
    private static final String SIX_BAYS = "bay 0;bay 1;bay 2;bay 3;bay 4;bay 5;";

    private static final Check check = new Check("TextEdgeTests");

    public static void main(String[] args) {
        bufferOf800Bytes();
        statementsFromNoneOn();
        onlySpacesSeparate();
        spacesBeforeAnyToken();
        spacesAfterTheLastToken();
        runsOfDigits();
        runsOfLetters();
        settings();
        ways();
        sectionsOfTheTunnel();
        capacityOfTheLanes();
        sectionsOfStatements();
        strengths();
        fanSettings();
        drafts();
        stateAtFirst();
        factors();
        nesting();
        oneOfAKindASection();
        sixBays();
        twentyCars();
        statementsThatOccurOnce();
        repeatedReds();
        roomInTheLane();
        roomIsKnownAfterTheWay();
        smallestOffset();
        firstKindInTheList();
        endOfTheText();
        emptyText();
        cutTexts();
        changedTexts();
        check.finish();
    }

    private static void good(String text, int cars) {
        check.textGood(text, cars);
    }

    private static void error(String marked, int code) {
        check.textError(marked, code);
    }

    private static String spaces(int count) {
        return " ".repeat(count);
    }

    /** "The setup text is read from an input buffer of at most 800 bytes." */
    private static void bufferOf800Bytes() {
        String tunnel = "tunnel 4 1;";
        TunnelControlDesk desk = Check.desk(tunnel + spaces(800 - 11 - 7) + "fire 3;");
        check.same("the last byte counts", desk.fireSection(), 3);
        desk = Check.desk(tunnel + spaces(800 - 11));
        check.same("a tunnel and spaces", desk.sectionCount(), 4);
        error(tunnel + spaces(800 - 11 - 1) + "^!", SYNTAX);
        error(tunnel + spaces(800 - 11 - 6) + "fire 3^", SYNTAX);
        desk = Check.desk(spaces(800 - 11) + tunnel);
        check.same("spaces and a tunnel", desk.sectionCount(), 4);
    }

    /** "setup = "tunnel" number number ";" { statement ";" }" */
    private static void statementsFromNoneOn() {
        good("tunnel 2 1;", 0);
        good("tunnel 2 1;fire 0;", 0);
        good("tunnel 2 1;fire 0;draft 0;", 0);
        error("tunnel 2 1;^;", SYNTAX);
        error("tunnel 2 1;fire 0;^;", SYNTAX);
        error("tunnel 2 1;fire 0 ^draft 0;", SYNTAX);
        error("tunnel 2 1 ^fire 0;", SYNTAX);
        error("^fire 0;tunnel 2 1;", SYNTAX);
        error("tunnel2^", SYNTAX);
        error("tunnel 2 1;^tunnel 2 1;", SYNTAX);
        error("^2 1;", SYNTAX);
        error(" ^;", SYNTAX);
    }

    private static boolean isDigit(int sign) {
        return sign >= '0' && sign <= '9';
    }

    /** "Spaces (byte 32) may precede any token ... No other byte separates tokens." */
    private static void onlySpacesSeparate() {
        for (int b = 0; b < 256; b++) {
            char sign = (char) b;
            String before = sign + "tunnel 3 1;";
            String inside = "tunnel 3" + sign + "1;";
            String between = "tunnel 3 1;" + sign + "fire 2;";
            String in = "tunnel 3 1;fire" + sign + "2;";
            String after = "tunnel 3 1;fire 2;" + sign;
            if (b == ' ') {
                good(before, 0);
                good(inside, 0);
                good(between, 0);
                good(in, 0);
                good(after, 0);
                continue;
            }
            check.textError(before, SYNTAX, 0);
            check.textError(between, SYNTAX, 11);
            check.textError(after, SYNTAX, 18);
            if (isDigit(b)) {
                check.textError(inside, RANGE, 7);
                if (b == '0') {
                    good(in, 0);
                } else {
                    check.textError(in, RANGE, 15);
                }
            } else {
                check.textError(inside, SYNTAX, 8);
                check.textError(in, SYNTAX, b >= 'a' && b <= 'z' ? 11 : 15);
            }
        }
    }

    /** "Spaces (byte 32) may precede any token ..." */
    private static void spacesBeforeAnyToken() {
        String[] tokens = {"tunnel", "4", "2", ";", "bay", "1", ";", "vent", "0", "7", ";", "fan", "2", "-", "3", ";",
            "car", "3", "west", ";", "fire", "1", ";", "draft", "-", "9", ";", "red", "0", "east", ";",
            "rate", "(", "clock", "+", "5", ")", "*", "cars", "/", "2", "-", "flow", ";"};
        for (int more = 0; more < 4; more++) {
            StringBuilder text = new StringBuilder();
            for (String token : tokens) {
                text.append(spaces(more)).append(needsSpace(text, token) ? " " : "").append(token);
            }
            TunnelControlDesk desk = Check.desk(text.toString());
            check.same("bay", desk.bay(1), 1);
            check.same("fan", desk.fan(2), -3);
            check.same("car", desk.carSection(0), 3);
            check.same("car", desk.carDirection(0), -1);
            check.same("fire", desk.fireSection(), 1);
            check.same("flow", desk.flow(), -12);
            check.yes("red", desk.isRed(0, 1));
            check.same("rate", desk.rate(), 5 * 1 / 2 + 12);
        }
    }

    private static boolean needsSpace(StringBuilder text, String token) {
        if (text.length() == 0) {
            return false;
        }
        char last = text.charAt(text.length() - 1);
        char first = token.charAt(0);
        return Character.isDigit(last) && Character.isDigit(first) || Character.isLetter(last) && Character.isLetter(first);
    }

    /** "... and may follow the last one." */
    private static void spacesAfterTheLastToken() {
        for (int count = 0; count < 25; count++) {
            good("tunnel 2 1;" + spaces(count), 0);
            error("tunnel 2 1;" + spaces(count) + "^.", SYNTAX);
            error("tunnel 2 1" + spaces(count) + "^", SYNTAX);
        }
    }

    /** "A number is a run of decimal digits ... Each run is as long as possible." */
    private static void runsOfDigits() {
        check.same("two digits", Check.desk("tunnel 12 1;").sectionCount(), 12);
        error("tunnel ^1 2 1;", RANGE);
        error("tunnel ^121;", RANGE);
        for (char sign = '0'; sign <= '9'; sign++) {
            check.same("digit " + sign, Check.desk("tunnel 12 1;draft 1" + sign + ";").flow(), 10 + sign - '0');
        }
        error("tunnel 3 1;draft ^/1;", SYNTAX);
        error("tunnel 3 1;draft ^:1;", SYNTAX);
        check.same("zeros first", Check.desk("tunnel 00000000000000000000000000012 1;").sectionCount(), 12);
        check.same("zeros alone", Check.desk("tunnel 12 1;fire 00000000000;").fireSection(), 0);
        // Numbers that wrap around to a small one in an int or a long are large all the same.
        error("tunnel ^4294967298 1;", RANGE);
        error("tunnel ^18446744073709551618 1;", RANGE);
        error("tunnel 3 1;draft ^2147483648;", RANGE);
        error("tunnel 3 1;draft -^4294967295;", RANGE);
        error("tunnel 3 1;rate ^4294967296;", RANGE);
        error("tunnel ^2" + "0".repeat(700) + " 1;", RANGE);
        good("tunnel " + "0".repeat(700) + "2 1;", 0);
        // A number may touch the word before it and after it.
        good("tunnel2 1;car0east;car1west;red0west;", 2);
    }

    /** "... a word is a run of the letters a to z. Each run is as long as possible." */
    private static void runsOfLetters() {
        String[] words = {"bay", "vent", "fan", "car", "fire", "draft", "red", "rate"};
        for (String word : words) {
            error("tunnel 3 1;^" + word + "a 0;", SYNTAX);
            error("tunnel 3 1;^" + word + "z 0;", SYNTAX);
            error("tunnel 3 1;^a" + word + " 0;", SYNTAX);
            error("tunnel 3 1;^z" + word + " 0;", SYNTAX);
            error("tunnel 3 1;^" + word.substring(0, word.length() - 1) + " 0;", SYNTAX);
            error("tunnel 3 1;^" + word.substring(1) + " 0;", SYNTAX);
            error("tunnel 3 1;^" + word.toUpperCase() + " 0;", SYNTAX);
            error("tunnel 3 1;" + word + "^`0;", SYNTAX);
            error("tunnel 3 1;" + word + "^{0;", SYNTAX);
            error("tunnel 3 1;" + word + "^A 0;", SYNTAX);
            error("tunnel 3 1;" + word + "^Z 0;", SYNTAX);
        }
        error("tunnel 3 1;^bayfire 0;", SYNTAX);
        error("tunnel 3 1;^ratecars;", SYNTAX);
        error("tunnel 3 1;rate ^clockcars;", SYNTAX);
        error("tunnel 3 1;red 0 ^eastwest;", SYNTAX);
        error("^tunnelbay 3 1;", SYNTAX);
    }

    /** "setting = [ "-" ] number" */
    private static void settings() {
        check.same("none", Check.desk("tunnel 3 1;draft 7;").flow(), 7);
        check.same("one", Check.desk("tunnel 3 1;draft -7;").flow(), -7);
        check.same("apart", Check.desk("tunnel 3 1;draft  -  7;").flow(), -7);
        check.same("minus zero", Check.desk("tunnel 3 1;draft -0;").flow(), 0);
        error("tunnel 3 1;draft -^-7;", SYNTAX);
        error("tunnel 3 1;draft ^+7;", SYNTAX);
        error("tunnel 3 1;draft 7^-;", SYNTAX);
        error("tunnel 3 1;draft -^;", SYNTAX);
        error("tunnel 3 1;draft -^", SYNTAX);
        // Only fan and draft have a setting.
        error("tunnel ^-3 1;", SYNTAX);
        error("tunnel 3 ^-1;", SYNTAX);
        for (int i = 0; i < STATEMENTS.length; i++) {
            error("tunnel 3 1;" + STATEMENTS[i] + " ^-0" + AFTER_SECTION[i] + ";", SYNTAX);
        }
        error("tunnel 3 1;vent 0 ^-1;", SYNTAX);
        error("tunnel 3 1;rate ^-1;", SYNTAX);
        error("tunnel 3 1;rate 1-^-1;", SYNTAX);
    }

    /** "way = "east" | "west"" */
    private static void ways() {
        TunnelControlDesk desk = Check.desk("tunnel 3 1;car 0 east;car 0 west;red 1 east;red 2 west;");
        check.same("east", desk.carDirection(0), 1);
        check.same("west", desk.carDirection(1), -1);
        check.yes("red east", desk.isRed(1, 1) && !desk.isRed(1, -1));
        check.yes("red west", desk.isRed(2, -1) && !desk.isRed(2, 1));
        for (String word : new String[] {"eas", "easts", "wes", "wests", "north", "EAST", "1", "-1", ";", "-"}) {
            error("tunnel 3 1;car 0 ^" + word + ";", SYNTAX);
            error("tunnel 3 1;red 0 ^" + word + ";", SYNTAX);
        }
        error("tunnel 3 1;car 0 east^_;", SYNTAX);
        error("tunnel 3 1;car 0 east ^west;", SYNTAX);
        error("tunnel 3 1;red 0 east ^1;", SYNTAX);
    }

    /** "There are 2 to 12 sections." */
    private static void sectionsOfTheTunnel() {
        for (int sections = 0; sections <= 14; sections++) {
            if (sections >= 2 && sections <= 12) {
                check.same("sections", Check.desk("tunnel " + sections + " 1;").sectionCount(), sections);
            } else {
                error("tunnel ^" + sections + " 1;", RANGE);
            }
        }
        error("tunnel ^20 1;", RANGE);
        error("tunnel ^100000 1;", RANGE);
        error("tunnel ^100001 1;", RANGE);
    }

    /** "A lane of a section has room for 1 to 4 cars (the capacity)." */
    private static void capacityOfTheLanes() {
        error("tunnel 2 ^0;", RANGE);
        error("tunnel 2 ^5;", RANGE);
        error("tunnel 2 ^10;", RANGE);
        for (int capacity = 1; capacity <= 4; capacity++) {
            String text = "tunnel 2 " + capacity + ";";
            for (int car = 0; car < capacity; car++) {
                text += "car 1 west;";
            }
            good(text, capacity);
            error(text + "car ^1 west;", RANGE);
            good(text + "car 1 east;car 0 west;", capacity + 2);
        }
    }

    /** "The first number of bay, vent, fan, car, fire and red is a section": 0 to the number of sections - 1. */
    private static void sectionsOfStatements() {
        for (int sections : new int[] {2, 3, 11, 12}) {
            for (int i = 0; i < STATEMENTS.length; i++) {
                String start = "tunnel " + sections + " 1;" + STATEMENTS[i] + " ";
                int cars = STATEMENTS[i].equals("car") ? 1 : 0;
                good(start + "0" + AFTER_SECTION[i] + ";", cars);
                good(start + (sections - 1) + AFTER_SECTION[i] + ";", cars);
                error(start + "^" + sections + AFTER_SECTION[i] + ";", RANGE);
                error(start + "^" + (sections + 1) + AFTER_SECTION[i] + ";", RANGE);
                error(start + "^99999999999" + AFTER_SECTION[i] + ";", RANGE);
                error(start + "^" + sections, RANGE);
            }
        }
    }

    /** "... a vent with a strength from 1 to 100 percent ..." */
    private static void strengths() {
        error("tunnel 2 1;vent 1 ^0;", RANGE);
        good("tunnel 2 1;vent 1 1;", 0);
        good("tunnel 2 1;vent 1 2;", 0);
        good("tunnel 2 1;vent 1 99;", 0);
        good("tunnel 2 1;vent 1 100;", 0);
        error("tunnel 2 1;vent 1 ^101;", RANGE);
        error("tunnel 2 1;vent 1 ^1000;", RANGE);
    }

    /** "A section may have a fan with a setting from -10 to 10 ..." */
    private static void fanSettings() {
        for (int setting = -10; setting <= 10; setting++) {
            check.same("fan " + setting, Check.desk("tunnel 2 1;fan 1 " + setting + ";").fan(1), setting);
        }
        error("tunnel 2 1;fan 1 ^11;", RANGE);
        error("tunnel 2 1;fan 1 -^11;", RANGE);
        error("tunnel 2 1;fan 1 - ^11;", RANGE);
        error("tunnel 2 1;fan 1 ^100;", RANGE);
    }

    /** "The flow is the draft of the tunnel (-100 to 100) ..." */
    private static void drafts() {
        for (int draft : new int[] {-100, -99, -1, 0, 1, 99, 100}) {
            check.same("draft " + draft, Check.desk("tunnel 2 1;draft " + draft + ";").flow(), draft);
        }
        error("tunnel 2 1;draft ^101;", RANGE);
        error("tunnel 2 1;draft -^101;", RANGE);
        error("tunnel 2 1;draft -  ^101;", RANGE);
        error("tunnel 2 1;draft ^1000;", RANGE);
    }

    /** "A bay is open at first. A signal is red if ... and green otherwise. The draft is 0 if there is no ..." */
    private static void stateAtFirst() {
        TunnelControlDesk desk = Check.desk("tunnel 12 1;bay 0;bay 11;red 11 west;");
        check.same("bay 0", desk.bay(0), 1);
        check.same("bay 11", desk.bay(11), 1);
        check.same("no bay", desk.bay(5), -1);
        int reds = 0;
        for (int section = 0; section < 12; section++) {
            reds += (desk.isRed(section, 1) ? 1 : 0) + (desk.isRed(section, -1) ? 1 : 0);
        }
        check.same("reds", reds, 1);
        check.yes("red 11 west", desk.isRed(11, -1));
        check.same("draft", desk.flow(), 0);
        check.same("fire", desk.fireSection(), -1);
    }

    /** "A number as a factor is 0 to 9999." */
    private static void factors() {
        for (int value : new int[] {0, 1, 9998, 9999}) {
            check.same("factor", Check.desk("tunnel 2 1;fire 0;rate " + value + ";").rate(), value);
            check.same("factor", Check.desk("tunnel 2 1;fire 0;rate (0+" + value + ")*1;").rate(), value);
        }
        error("tunnel 2 1;rate ^10000;", RANGE);
        error("tunnel 2 1;rate ^10001;", RANGE);
        error("tunnel 2 1;rate 0*^10000;", RANGE);
        error("tunnel 2 1;rate ((((^10000))));", RANGE);
        error("tunnel 2 1;rate clock-^99999;", RANGE);
        good("tunnel 2 1;rate 00009999;", 0);
    }

    /** "Parentheses nest at most 4 deep"; "TOO_DEEP: an opening parenthesis inside 4 others, at that parenthesis". */
    private static void nesting() {
        for (int depth = 0; depth <= 4; depth++) {
            String open = "(".repeat(depth);
            String close = ")".repeat(depth);
            check.same("depth " + depth, Check.desk("tunnel 2 1;fire 0;rate " + open + "7" + close + ";").rate(), 7);
        }
        error("tunnel 2 1;rate ((((^(7)))));", DEEP);
        error("tunnel 2 1;rate ((((^((7))))));", DEEP);
        error("tunnel 2 1;rate (((( ^( 7", DEEP);
        error("tunnel 2 1;rate ((((^(", DEEP);
        error("tunnel 2 1;rate ((((7+^(7)))));", DEEP);
        error("tunnel 2 1;rate ((((7*^(7)))));", DEEP);
        error("tunnel 2 1;rate 1+(2*(3-(4/(5+^(6)))));", DEEP);
        // What has been closed counts no more.
        good("tunnel 2 1;rate ((((1))))*((((2))))-(3)/(((4)+(5)));", 0);
        good("tunnel 2 1;rate (((1)+(2)+(3)+(4)+(5)+(6)));", 0);
        error("tunnel 2 1;rate ((((1))))+((((^(2)))));", DEEP);
        error("tunnel 2 1;rate (((1)+((^(2)))));", DEEP);
        // Where no parenthesis may stand, it is no matter of depth.
        error("tunnel 2 1;rate ((((1^(2)))));", SYNTAX);
        error("tunnel 2 1;rate ((((1))))^);", SYNTAX);
    }

    /** "A section has at most one bay, one vent and one fan." */
    private static void oneOfAKindASection() {
        good("tunnel 12 1;bay 11;vent 11 1;fan 11 1;", 0);
        good("tunnel 12 1;fan 11 1;vent 11 1;bay 11;", 0);
        error("tunnel 12 1;bay 11;bay ^11;", RANGE);
        error("tunnel 12 1;bay 0;vent 0 1;bay ^0;", RANGE);
        error("tunnel 12 1;vent 11 1;vent ^11 1;", RANGE);
        error("tunnel 12 1;vent 0 100;vent ^0 101;", RANGE);
        error("tunnel 12 1;vent 0 100;vent ^0;", RANGE);
        error("tunnel 12 1;fan 11 1;fan ^11 1;", RANGE);
        error("tunnel 12 1;fan 0 0;fan ^0 0;", RANGE);
        error("tunnel 12 1;fan 0 0;fan ^0 -11;", RANGE);
        error("tunnel 12 1;fan 0 0;fan ^0;", RANGE);
        StringBuilder text = new StringBuilder("tunnel 12 1;");
        for (int section = 0; section < 12; section++) {
            text.append("vent ").append(section).append(" 100;fan ").append(section).append(" -10;");
        }
        good(text.toString(), 0);
        error(text + "vent ^6 1;", RANGE);
        error(text + "fan ^6 1;", RANGE);
    }

    /** "There are at most 6 bays"; "TOO_MANY: a bay ... beyond the maximum number, at the first letter". */
    private static void sixBays() {
        good("tunnel 12 1;" + SIX_BAYS, 0);
        error("tunnel 12 1;" + SIX_BAYS + "^bay 6;", MANY);
        error("tunnel 12 1;" + SIX_BAYS + "  ^bay 6;", MANY);
        error("tunnel 12 1;" + SIX_BAYS + "^bay 0;", MANY);
        error("tunnel 12 1;" + SIX_BAYS + "^bay 12;", MANY);
        error("tunnel 12 1;" + SIX_BAYS + "^bay;", MANY);
        error("tunnel 12 1;" + SIX_BAYS + "^bay", MANY);
        error("tunnel 12 1;" + SIX_BAYS + "^bayz 6;", SYNTAX);
        error("tunnel 5 1;bay 0;bay 1;bay 2;bay 3;bay 4;bay ^4;", RANGE);
        error("tunnel 5 1;bay 0;bay 1;bay 2;bay 3;bay 4;bay ^5;", RANGE);
        good("tunnel 12 1;" + SIX_BAYS + "vent 6 1;fan 6 1;car 6 east;fire 6;red 6 west;", 1);
    }

    /** "There are at most ... 20 cars"; "TOO_MANY: a ... car beyond the maximum number, at the first letter". */
    private static void twentyCars() {
        StringBuilder cars = new StringBuilder("tunnel 12 4;");
        for (int car = 0; car < 20; car++) {
            good(cars.toString(), car);
            cars.append("car ").append(car % 12).append(" east;");
        }
        good(cars.toString(), 20);
        check.same("inside", Check.desk(cars.toString()).inside(), 20);
        error(cars + "^car 0 west;", MANY);
        error(cars + " ^car 0 east;", MANY);
        error(cars + "^car 12 east;", MANY);
        error(cars + "^car;", MANY);
        error(cars + "^car", MANY);
        error(cars + "^carz 0 west;", SYNTAX);
        good(cars + SIX_BAYS + "fire 0;", 20);
        error(cars + SIX_BAYS + "^bay 11;", MANY);
    }

    /** "The statements fire, draft and rate may each occur once"; "a second fire, draft or rate, at its first letter". */
    private static void statementsThatOccurOnce() {
        good("tunnel 2 1;fire 0;draft 0;rate 0;", 0);
        good("tunnel 2 1;rate 0;draft 0;fire 0;", 0);
        error("tunnel 2 1;fire 0;^fire 0;", SYNTAX);
        error("tunnel 2 1;fire 0;draft 0;rate 0; ^fire 2;", SYNTAX);
        error("tunnel 2 1;fire 0;^fire", SYNTAX);
        error("tunnel 2 1;draft 0;^draft 0;", SYNTAX);
        error("tunnel 2 1;draft 0;rate 0;fire 0;^draft 101;", SYNTAX);
        error("tunnel 2 1;draft 0;^draft", SYNTAX);
        error("tunnel 2 1;rate 0;^rate 0;", SYNTAX);
        error("tunnel 2 1;rate 0;draft 0;fire 0;^rate 10000;", SYNTAX);
        error("tunnel 2 1;rate 0;^rate (((((", SYNTAX);
        error("tunnel 2 1;rate 0;^rate", SYNTAX);
        // Once in each text.
        TunnelControlDesk desk = new TunnelControlDesk();
        for (int i = 0; i < 3; i++) {
            check.same("each text", Check.load(desk, "tunnel 2 1;fire 0;draft 0;rate 0;"), 0);
            check.same("each text", Check.load(desk, "tunnel 2 1;fire 0;draft 0;rate 0;x"), SYNTAX);
        }
    }

    /** "A red statement may be repeated." */
    private static void repeatedReds() {
        String text = "tunnel 2 1;" + "red 1 east;".repeat(71);
        check.same("length", text.length(), 792);
        TunnelControlDesk desk = Check.desk(text);
        check.yes("red", desk.isRed(1, 1));
        check.no("not red", desk.isRed(1, -1) || desk.isRed(0, 1) || desk.isRed(0, -1));
        good("tunnel 2 1;red 1 east;red 1 west;red 1 east;", 0);
        error("tunnel 2 1;red 1 east;red ^2 east;", RANGE);
    }

    /** "a section of a car if the lane has no room, at its first digit, where only the cars that come earlier ... count" */
    private static void roomInTheLane() {
        for (int section : new int[] {0, 11}) {
            String car = "car " + section;
            error("tunnel 12 1;" + car + " east;car ^" + section + " east;", RANGE);
            error("tunnel 12 1;" + car + " west;car ^" + section + " west;", RANGE);
            error("tunnel 12 1;" + car + " east;car ^000" + section + " east;", RANGE);
            good("tunnel 12 1;" + car + " east;" + car + " west;", 2);
            error("tunnel 12 1;" + car + " east;" + car + " west;car ^" + section + " east;" + car + " west;", RANGE);
            good("tunnel 12 4;" + (car + " east;").repeat(4) + (car + " west;").repeat(4), 8);
            error("tunnel 12 4;" + (car + " east;").repeat(4) + "car ^" + section + " east;", RANGE);
        }
        // The first of the two has the room, as only earlier cars count.
        error("tunnel 2 1;car 0 east;red 0 east;fire 0;car ^0 east;", RANGE);
    }

    /** "Whether the lane of a car has room is known when its way has been read; ... a missing way counts before it." */
    private static void roomIsKnownAfterTheWay() {
        String full = "tunnel 2 1;car 0 east;";
        error(full + "car 0 ^;", SYNTAX);
        error(full + "car 0^", SYNTAX);
        error(full + "car 0  ^", SYNTAX);
        error(full + "car 0 ^north;", SYNTAX);
        error(full + "car 0 ^easter;", SYNTAX);
        error(full + "car 0 ^0 east;", SYNTAX);
        error(full + "car ^2 east;", RANGE);
        error(full + "car ^2;", RANGE);
        error(full + "car ^east;", SYNTAX);
        // Errors after the way have a greater offset.
        error(full + "car ^0 east", RANGE);
        error(full + "car ^0 east east;", RANGE);
        error(full + "car ^0 east!", RANGE);
        error(full + "car 0 west ^west;", SYNTAX);
    }

    /** "The first error in the text is the one with the smallest offset." */
    private static void smallestOffset() {
        error("tunnel ^13 9;bay 99;car;((((((", RANGE);
        error("tunnel 2 ^5 ;bay 99;", RANGE);
        error("tunnel 2 1;bay ^9;rate 10000;", RANGE);
        error("tunnel 2 1;rate ^10000+(((((1;", RANGE);
        error("tunnel 2 1;rate ((((^(10000+;", DEEP);
        error("tunnel 2 1;vent ^2 0;", RANGE);
        error("tunnel 2 1;vent 1 ^0;vent 1 0;", RANGE);
        error("tunnel 2 1;fan 1 ^11 fan;", RANGE);
        error("tunnel 2 1;fan ^2 -;", RANGE);
        error("tunnel 12 1;" + SIX_BAYS + "^bay 99;fire 99;", MANY);
        error("tunnel 12 1;" + SIX_BAYS + "fire ^99;bay 6;", RANGE);
        error("tunnel 12 1;" + SIX_BAYS + "fire 1;^fire 2;bay 6;", SYNTAX);
    }

    /** "If several kinds of error have the same offset, the first one in this list counts." */
    private static void firstKindInTheList() {
        // A number where none may stand is not out of range, and a statement where none may stand is not one too many.
        error("tunnel 2 1 ^99;", SYNTAX);
        error("tunnel 2 1;bay ^x;", SYNTAX);
        error("tunnel 2 1;fire 0 ^99;", SYNTAX);
        error("tunnel 2 1;rate 1 ^10000;", SYNTAX);
        error("tunnel 2 1;rate ((((1 ^(", SYNTAX);
        error("tunnel 12 1;" + SIX_BAYS + "fire 1 ^bay 7;", SYNTAX);
        error("tunnel 2 1;car 0 ^99;", SYNTAX);
    }

    /** "the end of the text, at its length, if the text ends too early" */
    private static void endOfTheText() {
        String[] starts = {"tunnel", "tunnel 2", "tunnel 2 1", "tunnel 2 1;bay", "tunnel 2 1;bay 0", "tunnel 2 1;vent",
            "tunnel 2 1;vent 0", "tunnel 2 1;vent 0 1", "tunnel 2 1;fan", "tunnel 2 1;fan 0", "tunnel 2 1;fan 0 -",
            "tunnel 2 1;fan 0 -1", "tunnel 2 1;car", "tunnel 2 1;car 0", "tunnel 2 1;car 0 east", "tunnel 2 1;fire",
            "tunnel 2 1;fire 0", "tunnel 2 1;draft", "tunnel 2 1;draft -", "tunnel 2 1;draft 1", "tunnel 2 1;red",
            "tunnel 2 1;red 0", "tunnel 2 1;red 0 west", "tunnel 2 1;rate", "tunnel 2 1;rate 1", "tunnel 2 1;rate 1+",
            "tunnel 2 1;rate (", "tunnel 2 1;rate (1", "tunnel 2 1;rate (1)", "tunnel 2 1;rate 1*"};
        for (String start : starts) {
            error(start + "^", SYNTAX);
            error(start + "   ^", SYNTAX);
            // The text ends there also where the buffer does not.
            TunnelControlDesk desk = new TunnelControlDesk();
            Check.append(desk, start + ";;;;;;;;");
            check.same("load of " + start, desk.load(start.length()), SYNTAX);
            check.same("errorOffset after " + start, desk.errorOffset(), start.length());
        }
    }

    /** "An empty text has a SYNTAX_ERROR." */
    private static void emptyText() {
        TunnelControlDesk desk = new TunnelControlDesk();
        check.same("empty text, empty buffer", desk.load(0), SYNTAX);
        check.same("its offset", desk.errorOffset(), 0);
        Check.append(desk, "tunnel 2 1;");
        check.same("empty text, a buffer", desk.load(0), SYNTAX);
        check.same("its offset", desk.errorOffset(), 0);
        check.illegalArgument("the buffer is empty then", () -> desk.load(1));
        for (int length : new int[] {1, 20, 799, 800}) {
            error(spaces(length) + "^", SYNTAX);
        }
    }

    private static final String WHOLE = "tunnel 5 2;bay 4;vent 1 70;fan 2 -4;car 0 east;car 0 east;car 3 west;fire 3;"
            + "draft -9;red 0 west;rate ((cars+8)*(2-flow))/clock;";

    private static void likeTheModel(String text) {
        TunnelControlDesk desk = new TunnelControlDesk();
        Model model = new Model();
        Check.append(desk, text);
        for (int start = 0; start < text.length(); start += 20) {
            int[] words = new int[5];
            for (int i = 0; i < 20; i++) {
                words[i / 4] = words[i / 4] << 8 | (start + i < text.length() ? text.charAt(start + i) : ' ');
            }
            model.append(words);
        }
        check.same("load of " + text, desk.load(text.length()), model.load(text.length()));
        check.same("errorOffset of " + text, desk.errorOffset(), model.plain(0));
        check.same("checksum of " + text, desk.checksum(), model.plain(11));
    }

    /** A text cut off at each of its bytes. */
    private static void cutTexts() {
        for (int length = 0; length <= WHOLE.length(); length++) {
            likeTheModel(WHOLE.substring(0, length));
        }
    }

    /** A text in which each byte in its turn is another one, or has another one before it. */
    private static void changedTexts() {
        String signs = "\0\t\n\r !'()*+,-./0123459:;<@AZ[`abenrtwz{~\u007f\u0080\u00a0\u00b0\u00ff";
        for (int at = 0; at < WHOLE.length(); at++) {
            for (int i = 0; i < signs.length(); i++) {
                String start = WHOLE.substring(0, at) + signs.charAt(i);
                likeTheModel(start + WHOLE.substring(at + 1));
                likeTheModel(start + WHOLE.substring(at));
            }
            likeTheModel(WHOLE.substring(0, at) + WHOLE.substring(at + 1));
        }
    }
}
