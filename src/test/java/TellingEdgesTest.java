/** The edges of telling: each sentence on letters, statements and FAULTS that names one, by its own words. */
public final class TellingEdgesTest {
    private static final String DIGITS = "0123456789";
    private static final String VERBS = "ndhw";
    private static final String KINDS = "pltwcfs";

    public static void main(String[] args) {
        roomsAtFirst();
        leastAndMostRooms();
        aRoomForEachNumber();
        lettersFromLeastToMost();
        eightyLetters();
        lettersAreNoMore();
        statementsHaveTheirEnd();
        roomsAsManyAsToldOf();
        roomsToldByNumberAlone();
        doorsBetweenUnlikeRooms();
        doorsWithinTheRooms();
        doorsOfAnySize();
        holesOfEachKind();
        holesWithinTheRooms();
        holesFromLeastToMost();
        sidesUpTo3();
        pricesOfOneOrTwoDigits();
        numbersAsTheyCome();
        tenAtMost();
        weathersFromLeastToMost();
        weathersWithin40And20And3();
        fourWeathersAtMost();
        numbersMayBeginWith0();
        atLeastOneStatement();
        firstLetterThatCannotGoOn();
        theEndIfSomethingLacks();
        faultsOfLettersGoAhead();
        firstStatementOfSeveral();
        behindAllAheadOfIt();
        allOfItOrNothing();
        aFaultIsNotCounted();
        Due.end();
    }

    /** What house() answers on a new object; with a FAULT nothing may have come, with none all letters are taken. */
    private static void houseIs(String text, int want) {
        DraughtsByCandle x = new DraughtsByCandle();
        Due.is("house() of \"" + text + "\"", Due.tell(x, text), want);
        Due.is("letters behind \"" + text + "\"", x.count(6), 0);
        if (want < 0) nothingCame(text, x);
    }

    private static void nothingCame(String text, DraughtsByCandle x) {
        Due.is("rooms behind \"" + text + "\"", x.count(0), 2);
        for (int what = 1; what <= 4; what++) Due.is("count(" + what + ") behind \"" + text + "\"", x.count(what), 0);
        for (int what = 11; what <= 16; what++) Due.is("count(" + what + ") behind \"" + text + "\"", x.count(what), 0);
    }

    // ---- rooms

    private static void roomsAtFirst() {
        Due.sentence("ROOMS 0 .. 5 (1 .. 6; 2 at first)");
        Due.is("rooms of a new object", new DraughtsByCandle().count(0), 2);
        houseIs("h0p111,1;", 1);
        houseIs("h1p111,1;", 1);
        houseIs("h2p111,1;", -2000);
        Due.sentence("Promise 1: Two ROOMS, no HOLES");
        DraughtsByCandle x = new DraughtsByCandle();
        Due.is("push(0)", x.push(0), 0);
        Due.is("push(1)", x.push(1), 0);
        Due.is("push(2)", x.push(2), Due.FAR + 1);
        Due.is("hole(0, 0)", x.hole(0, 0), -1);
        Due.is("weather(0, 0)", x.weather(0, 0), -1);
    }

    private static void leastAndMostRooms() {
        Due.sentence("ROOMS (1 .. 6)");
        houseIs("n0;", -2000);
        houseIs("n1;", 1);
        houseIs("n6;", 1);
        houseIs("n7;", -2000);
        houseIs("n8;", -2000);
        houseIs("n9;", -2000);
        Due.is("rooms behind n1;", Due.housed("n1;").count(0), 1);
        Due.is("rooms behind n6;", Due.housed("n6;").count(0), 6);
    }

    private static void aRoomForEachNumber() {
        Due.sentence("ROOMS 0 .. 5");
        for (int rooms = 1; rooms <= 6; rooms++) {
            DraughtsByCandle x = Due.housed("n" + rooms + ";");
            Due.is("rooms", x.count(0), rooms);
            Due.is("push of the last of " + rooms, x.push(rooms - 1), 0);
            Due.is("push beyond the last of " + rooms, x.push(rooms), Due.FAR + 1);
            Due.is("push(-1)", x.push(-1), Due.FAR + 1);
            Due.is("a hole beyond the last of " + rooms, Due.tell(x, "h" + rooms + "p111,1;"), -2000);
            Due.is("a hole in the last of " + rooms, Due.tell(x, "h" + (rooms - 1) + "p111,1;"), 1);
        }
    }

    // ---- letters

    private static void lettersFromLeastToMost() {
        Due.sentence("A letter (0 .. 255) comes: how many there are. -4; -6 (255; 80, too)");
        DraughtsByCandle x = new DraughtsByCandle();
        Due.is("letter(-1)", x.letter(-1), -4);
        Due.is("letter(256)", x.letter(256), -6);
        Due.is("letter(least)", x.letter(Integer.MIN_VALUE), -4);
        Due.is("letter(greatest)", x.letter(Integer.MAX_VALUE), -6);
        Due.is("letters", x.count(6), 0);
        Due.is("letter(0)", x.letter(0), 1);
        Due.is("letter(255)", x.letter(255), 2);
        Due.is("letters", x.count(6), 2);
        // A letter beyond 255 is not taken for the one that its lower bits are.
        Due.is("letter('n' + 256)", x.letter('n' + 256), -6);
        Due.is("house()", x.house(), -1000);
    }

    private static void eightyLetters() {
        Due.sentence("A HOUSE is told in letters, one by one (80 at most)");
        DraughtsByCandle x = new DraughtsByCandle();
        String eighty = "n6;".repeat(15) + "d010;".repeat(7);
        for (int i = 0; i < 80; i++) Due.is("letter " + i, x.letter(eighty.charAt(i)), i + 1);
        Due.is("the 81st", x.letter(';'), -6);
        Due.is("the 81st below 0", x.letter(-1), -4);
        Due.is("the 81st above 255", x.letter(256), -6);
        Due.is("letters", x.count(6), 80);
        Due.is("house() of all 80", x.house(), 22);
        Due.is("doors", x.count(2), 7);
        Due.is("letters", x.count(6), 0);
        for (int i = 0; i < 80; i++) Due.is("letter " + i, x.letter(eighty.charAt(i)), i + 1);
        Due.is("house(), too many doors", x.house(), -2000 - 15 * 3 - 3 * 5);
        Due.is("the first behind a fault", x.letter('n'), 1);
    }

    private static void lettersAreNoMore() {
        Due.sentence("The letters become a HOUSE, and are no more (with a FAULT neither)");
        String[] texts = {"n3;", "n3", "n0;", "x"};
        for (String text : texts) {
            DraughtsByCandle x = new DraughtsByCandle();
            Due.tell(x, text);
            Due.is("letters behind " + text, x.count(6), 0);
            Due.is("house() without letters", x.house(), -1000);
            Due.is("the next house", Due.tell(x, "n4;"), 1);
            Due.is("rooms", x.count(0), 4);
        }
    }

    private static void statementsHaveTheirEnd() {
        Due.sentence("STATEMENTS, each with \";\" behind");
        houseIs("n3", -1002);
        houseIs("n3;", 1);
        houseIs("n3;n4", -1005);
        houseIs("n3;n4;", 2);
        houseIs("n3n4;", -1002);
        houseIs(";n3;", -1000);
        houseIs("n3;;", -1003);
        houseIs("n3,n4;", -1002);
    }

    // ---- "n"

    private static void roomsAsManyAsToldOf() {
        Due.sentence("\"n\" how many ROOMS (a digit; not fewer than are told of already)");
        for (int room = 1; room < 6; room++) {
            String[] tellers = {"h" + room + "p111,1;", "d0" + room + "1;", "d" + room + "01;"};
            for (String teller : tellers) {
                String ahead = "n6;" + teller;
                houseIs(ahead + "n" + room + ";", -2000 - ahead.length());
                houseIs(ahead + "n" + (room + 1) + ";", 3);
                DraughtsByCandle x = Due.housed(ahead);
                Due.is("fewer in a later house", Due.tell(x, "n" + room + ";"), -2000);
                Due.is("rooms", x.count(0), 6);
                Due.is("just as many in a later house", Due.tell(x, "n" + (room + 1) + ";"), 1);
                Due.is("rooms", x.count(0), room + 1);
                Due.is("more again", Due.tell(x, "n6;"), 1);
                Due.is("rooms", x.count(0), 6);
            }
        }
        // The greatest of all that is told of counts, be it told first or last.
        houseIs("n6;h4p111,1;h0p111,1;n4;", -2021);
        houseIs("n6;h0p111,1;h4p111,1;n4;", -2021);
        houseIs("n6;h4p111,1;h0p111,1;n5;", 4);
        // A hole in room 0 is no reason for a second room.
        houseIs("h0p111,1;n1;", 2);
    }

    private static void roomsToldByNumberAlone() {
        Due.sentence("\"n\" (not fewer than are told of already): of which no HOLE or DOOR tells");
        houseIs("n6;n1;", 2);
        Due.is("rooms", Due.housed("n6;n1;").count(0), 1);
        DraughtsByCandle x = Due.housed("n6;");
        Due.is("a later house of 1", Due.tell(x, "n1;"), 1);
        Due.is("rooms", x.count(0), 1);
        Due.is("a hole in what was room 1", Due.tell(x, "h1p111,1;"), -2000);
    }

    // ---- "d"

    private static void doorsBetweenUnlikeRooms() {
        Due.sentence("\"d\" two digits (unlike ROOMS)");
        for (int a = 0; a < 6; a++) {
            for (int b = 0; b < 6; b++) houseIs("n6;d" + a + b + "3;", a == b ? -2003 : 2);
        }
        DraughtsByCandle x = Due.housed("n6;d503;d053;");
        Due.is("the first of d503", x.hole(0, 0), 5);
        Due.is("the second of d503", x.hole(0, 1), 0);
        Due.is("the first of d053", x.hole(1, 0), 0);
        Due.is("the second of d053", x.hole(1, 1), 5);
    }

    private static void doorsWithinTheRooms() {
        Due.sentence("a ROOM that is not there (of a DOOR)");
        for (int rooms = 2; rooms <= 6; rooms++) {
            String ahead = "n" + rooms + ";";
            houseIs(ahead + "d0" + (rooms - 1) + "1;", 2);
            houseIs(ahead + "d" + (rooms - 1) + "01;", 2);
            houseIs(ahead + "d0" + rooms + "1;", -2003);
            houseIs(ahead + "d" + rooms + "01;", -2003);
        }
        houseIs("d091;", -2000);
        houseIs("d901;", -2000);
        houseIs("n1;d011;", -2003);
        houseIs("n1;d101;", -2003);
    }

    private static void doorsOfAnySize() {
        Due.sentence("\"d\" .. SIZE (a digit)");
        for (int size = 0; size <= 9; size++) {
            DraughtsByCandle x = Due.housed("d01" + size + ";");
            Due.is("size", x.hole(0, 3), size);
            Due.is("all sizes", x.count(4), size);
        }
    }

    // ---- "h"

    private static void holesOfEachKind() {
        Due.sentence("\"h\" .. a letter of a KIND");
        for (int c = 0; c < 256; c++) {
            int kind = KINDS.indexOf(c);
            houseIs("h0" + (char) c + "111,1;", kind >= 0 ? 1 : -1002);
            if (kind >= 0) Due.is("kind", Due.housed("h0" + (char) c + "111,1;").hole(0, 2), kind);
        }
        Due.sentence("2 KIND (.. 7 DOOR)");
        Due.is("kind", Due.housed("d011;").hole(0, 2), 7);
    }

    private static void holesWithinTheRooms() {
        Due.sentence("a ROOM that is not there (of a HOLE)");
        for (int rooms = 1; rooms <= 6; rooms++) {
            for (int room = 0; room <= 9; room++) {
                houseIs("n" + rooms + ";h" + room + "p111,1;", room < rooms ? 2 : -2003);
            }
        }
    }

    private static void holesFromLeastToMost() {
        Due.sentence("\"h\" .. SIZE, HEIGHT (digits)");
        for (int v = 0; v <= 9; v++) {
            DraughtsByCandle x = Due.housed("h0p" + v + (9 - v) + "1,1;");
            Due.is("size", x.hole(0, 3), v);
            Due.is("height", x.hole(0, 4), 9 - v);
        }
    }

    private static void sidesUpTo3() {
        Due.sentence("SIDE 0 .. 3 (of a HOLE)");
        for (int side = 0; side <= 9; side++) houseIs("h0p11" + side + ",1;", side <= 3 ? 1 : -2000);
        for (int side = 0; side <= 3; side++) Due.is("side", Due.housed("h0p11" + side + ",1;").hole(0, 5), side);
    }

    private static void pricesOfOneOrTwoDigits() {
        Due.sentence("PRICE (1 or 2 digits)");
        houseIs("h0p111,;", -1007);
        houseIs("h0p111,123;", -1009);
        for (int price = 0; price <= 99; price++) {
            Due.is("price", Due.housed("h0p111," + price + ";").hole(0, 6), price);
        }
        Due.sentence("a HOLE from it to the outside: the other ROOM of a DOOR (-9)");
        Due.is("other room", Due.housed("h1p111,1;").hole(0, 1), -9);
        Due.is("other room", Due.housed("d101;").hole(0, 1), 0);
    }

    // ---- numbers, and how many

    private static void numbersAsTheyCome() {
        Due.sentence("DOORS and HOLES have numbers as they come (PRICE of DOORS 0)");
        DraughtsByCandle x = Due.housed("h0p111,11;d012;w1,1,1;h1l333,33;n3;d124;");
        int[] sizes = {1, 2, 3, 4};
        int[] prices = {11, 0, 33, 0};
        for (int i = 0; i < 4; i++) {
            Due.is("size of " + i, x.hole(i, 3), sizes[i]);
            Due.is("price of " + i, x.hole(i, 6), prices[i]);
        }
        Due.is("height of a door", x.hole(1, 4), 0);
        Due.is("side of a door", x.hole(1, 5), 0);
        Due.is("none behind them", x.hole(4, 3), -1);
        Due.tell(x, "h2t553,55;");
        Due.is("a later house's", x.hole(4, 3), 5);
    }

    private static void tenAtMost() {
        Due.sentence("10 at most together");
        String[] tens = {"d011;".repeat(10), "d011;".repeat(5) + "h0p111,1;".repeat(5), "h0p111,1;".repeat(5) + "d011;".repeat(5)};
        for (String ten : tens) {
            houseIs(ten, 10);
            if (ten.length() + 9 <= 80) {
                houseIs(ten + "d011;", -2000 - ten.length());
                houseIs(ten + "h0p111,1;", -2000 - ten.length());
            }
            DraughtsByCandle x = Due.housed(ten);
            Due.is("an eleventh door", Due.tell(x, "d011;"), -2000);
            Due.is("an eleventh hole", Due.tell(x, "h1p111,1;"), -2000);
            Due.is("an eleventh behind another statement", Due.tell(x, "n4;h1p111,1;"), -2003);
            Due.is("ten", x.count(1), 10);
            Due.is("rooms", x.count(0), 2);
            Due.is("the last", x.hole(9, 3), 1);
            Due.is("none behind it", x.hole(10, 3), -1);
            Due.is("what is no hole nor door still comes", Due.tell(x, "n4;w1,1,1;"), 2);
        }
        DraughtsByCandle x = Due.housed("h1s992,99;".repeat(8));
        Due.is("a ninth", Due.tell(x, "d011;"), 1);
        Due.is("two more", Due.tell(x, "h0p111,1;h0p111,1;"), -2009);
        Due.is("nine", x.count(1), 9);
        Due.is("the tenth", Due.tell(x, "h0p111,1;"), 1);
        Due.is("ten", x.count(1), 10);
    }

    // ---- "w"

    private static void weathersFromLeastToMost() {
        Due.sentence("\"w\" WARM, WIND (1 or 2 digits each, \",\" between) \",\" SIDE (a digit, 0 .. 3): a WEATHER more");
        for (int warm = 0; warm <= 40; warm++) {
            DraughtsByCandle x = Due.housed("w" + warm + "," + warm / 2 + "," + warm % 4 + ";");
            Due.is("warm", x.weather(0, 0), warm);
            Due.is("wind", x.weather(0, 1), warm / 2);
            Due.is("side", x.weather(0, 2), warm % 4);
            Due.is("one", x.count(3), 1);
        }
        houseIs("w,1,1;", -1001);
        houseIs("w1,,1;", -1003);
        houseIs("w1,1,;", -1005);
        houseIs("w123,1,1;", -1003);
        houseIs("w1,123,1;", -1005);
        houseIs("w1,1,12;", -1006);
    }

    private static void weathersWithin40And20And3() {
        Due.sentence("a number out of range (WARM 0 .. 40, WIND 0 .. 20, SIDE 0 .. 3)");
        for (int v = 0; v <= 99; v++) {
            houseIs("w" + v + ",1,1;", v <= 40 ? 1 : -2000);
            houseIs("w1," + v + ",1;", v <= 20 ? 1 : -2000);
            if (v <= 9) houseIs("w1,1," + v + ";", v <= 3 ? 1 : -2000);
        }
    }

    private static void fourWeathersAtMost() {
        Due.sentence("a WEATHER more (4 at most)");
        String one = "w1,1,1;";
        houseIs(one.repeat(4), 4);
        houseIs(one.repeat(5), -2028);
        houseIs(one.repeat(4) + "n3;" + one, -2031);
        DraughtsByCandle x = Due.housed(one.repeat(3));
        Due.is("two more", Due.tell(x, one + one), -2007);
        Due.is("three", x.count(3), 3);
        Due.is("the fourth", Due.tell(x, "w4,4,2;"), 1);
        Due.is("four", x.count(3), 4);
        Due.is("a fifth", Due.tell(x, one), -2000);
        Due.is("four", x.count(3), 4);
        Due.is("the last", x.weather(3, 0), 4);
        Due.is("none behind it", x.weather(4, 0), -1);
        Due.is("what is no weather still comes", Due.tell(x, "d011;"), 1);
    }

    private static void numbersMayBeginWith0() {
        Due.sentence("Numbers may begin with 0");
        DraughtsByCandle x = Due.housed("w00,00,0;w01,09,1;w0,0,0;h0p000,00;h0p000,07;h0p000,0;");
        int[] warm = {0, 1, 0};
        int[] wind = {0, 9, 0};
        int[] price = {0, 7, 0};
        for (int i = 0; i < 3; i++) {
            Due.is("warm", x.weather(i, 0), warm[i]);
            Due.is("wind", x.weather(i, 1), wind[i]);
            Due.is("price", x.hole(i, 6), price[i]);
        }
        houseIs("w000,0,0;", -1003);
        houseIs("w0,000,0;", -1005);
        houseIs("w0,0,00;", -1006);
        houseIs("h0p000,000;", -1009);
        houseIs("n01;", -1002);
    }

    // ---- FAULTS

    private static void atLeastOneStatement() {
        Due.sentence("At least one STATEMENT");
        houseIs("", -1000);
        houseIs("n2;", 1);
    }

    /** Each place of each shape with each letter there is. */
    private static void firstLetterThatCannotGoOn() {
        Due.sentence("kind 1 the place of the first letter with which no HOUSE can go on: -1000 less the place");
        String numberOrSign = DIGITS + ",";
        String numberOrEnd = DIGITS + ";";
        goesOn("n3;", VERBS, DIGITS, ";");
        goesOn("d015;", VERBS, DIGITS, DIGITS, DIGITS, ";");
        goesOn("h0p123,45;", VERBS, DIGITS, KINDS, DIGITS, DIGITS, DIGITS, ",", DIGITS, numberOrEnd, ";");
        goesOn("w1,2,3;", VERBS, DIGITS, numberOrSign, DIGITS, numberOrSign, DIGITS, ";");
        goesOn("w12,13,3;", VERBS, DIGITS, numberOrSign, ",", DIGITS, numberOrSign, ",", DIGITS, ";");
    }

    private static void goesOn(String statement, String... allowed) {
        for (int place = 0; place < statement.length(); place++) {
            for (int c = 0; c < 256; c++) {
                boolean fits = allowed[place].indexOf(c) >= 0;
                String text = statement.substring(0, place) + (char) c;
                if (fits && c == ';') continue;
                int fault = -1000 - (fits ? place + 1 : place);
                houseIs(text, fault);
                if (c % 16 == 0 || c < 128) houseIs("n6;" + statement + text, fault - 3 - statement.length());
                if (!fits) houseIs(text + statement, fault);
            }
        }
    }

    private static void theEndIfSomethingLacks() {
        Due.sentence("the end, if something lacks");
        String[] statements = {"n3;", "d015;", "h0p123,4;", "h0p123,45;", "w1,2,3;", "w12,13,3;"};
        for (String statement : statements) {
            for (int length = 0; length < statement.length(); length++) {
                houseIs(statement.substring(0, length), -1000 - length);
                if (length > 0) houseIs("n3;" + statement.substring(0, length), -1003 - length);
            }
        }
        String ahead = "n6;".repeat(26);
        houseIs(ahead + "n6", -1080);
        houseIs(ahead + "n;", -1079);
        houseIs(ahead + "nn", -1079);
        houseIs(ahead + "n", -1079);
        houseIs(ahead + "6;", -1078);
    }

    private static void faultsOfLettersGoAhead() {
        Due.sentence("FAULT: kind 1 ..; else kind 2");
        houseIs("n0;x", -1003);
        houseIs("n0;n", -1004);
        houseIs("n0;h9p119,1;w99,99,9;d", -1022);
        houseIs("n0;n3;", -2000);
    }

    private static void firstStatementOfSeveral() {
        Due.sentence("kind 2 the place of the first letter of the first STATEMENT that is not as it must be: -2000 less the place");
        String[] bad = {"n0;", "n7;", "d001;", "d021;", "d201;", "h2p111,1;", "h0p114,1;", "w41,0,0;", "w0,21,0;", "w0,0,4;"};
        for (String first : bad) {
            houseIs(first, -2000);
            houseIs(first + "n2;", -2000);
            for (String second : bad) {
                houseIs(first + second, -2000);
                houseIs("h1p111,12;" + first + second, -2010);
                houseIs("w1,1,1;d019;n2;" + first + "n2;" + second, -2015);
            }
        }
        houseIs("n6;".repeat(25) + "d000;", -2075);
        houseIs("n6;".repeat(25) + "n2;n0", -1080);
    }

    private static void behindAllAheadOfIt() {
        Due.sentence("that, behind all ahead of it in the text, is not as it must be");
        houseIs("n3;h2p111,1;", 2);
        houseIs("h2p111,1;n3;", -2000);
        houseIs("n3;d021;", 2);
        houseIs("d021;n3;", -2000);
        houseIs("n1;h1p111,1;", -2003);
        houseIs("h1p111,1;n1;", -2009);
        houseIs("n6;n1;d011;", -2006);
        houseIs("n1;n6;d051;", 3);
        houseIs("w1,1,1;".repeat(4) + "w41,1,1;", -2028);
        // What a house before it told is ahead of it too.
        DraughtsByCandle x = Due.housed("n3;");
        Due.is("a hole in a told room", Due.tell(x, "h2p111,1;"), 1);
        // What a house with a fault told is not.
        x = new DraughtsByCandle();
        Due.is("a fault", Due.tell(x, "n3;n0;"), -2003);
        Due.is("a hole in a room that has not come", Due.tell(x, "h2p111,1;"), -2000);
        x = new DraughtsByCandle();
        Due.is("a fault", Due.tell(x, "h1p111,1;n0;"), -2009);
        Due.is("no hole tells of room 1", Due.tell(x, "n1;"), 1);
        x = new DraughtsByCandle();
        Due.is("a fault", Due.tell(x, "d011;".repeat(10) + "n0;"), -2050);
        Due.is("there is room for ten still", Due.tell(x, "d012;".repeat(10)), 10);
        x = new DraughtsByCandle();
        Due.is("a fault", Due.tell(x, "w1,1,1;".repeat(4) + "n0;"), -2028);
        Due.is("there is room for four still", Due.tell(x, "w2,2,2;".repeat(4)), 4);
    }

    private static void allOfItOrNothing() {
        Due.sentence("Without FAULT all of it comes, with one nothing");
        String good = "n4;d312;h3p453,17;w7,8,2;";
        String[] ends = {"n3;", "d341;", "h4p111,1;", "w1,1,4;", "x", "n"};
        int[] faults = {-2025, -2025, -2025, -2025, -1025, -1026};
        for (int i = 0; i < ends.length; i++) houseIs(good + ends[i], faults[i]);
        DraughtsByCandle x = Due.housed(good);
        goodAlone(x);
        // A fault takes nothing of what an earlier house told either.
        String[] laterEnds = {"n5;", "d661;", "h6p111,1;", "w1,1,4;", "x", "n"};
        for (String end : laterEnds) {
            int answer = Due.tell(x, "n6;d549;h5c993,99;w9,9,3;" + end);
            Due.is("more with " + end, answer / 1000, end.length() == 1 ? -1 : -2);
            goodAlone(x);
        }
    }

    private static void goodAlone(DraughtsByCandle x) {
        int[] counts = {4, 2, 1, 1, 6, 0, 0};
        for (int what = 0; what < counts.length; what++) Due.is("count(" + what + ")", x.count(what), counts[what]);
        int[][] openings = {{3, 1, 7, 2, 0, 0, 0}, {3, -9, 0, 4, 5, 3, 17}};
        for (int what = 0; what < 7; what++) {
            Due.is("hole(0, " + what + ")", x.hole(0, what), openings[0][what]);
            Due.is("hole(1, " + what + ")", x.hole(1, what), openings[1][what]);
        }
        int[] weather = {7, 8, 2};
        for (int what = 0; what < 3; what++) Due.is("weather(0, " + what + ")", x.weather(0, what), weather[what]);
    }

    private static void aFaultIsNotCounted() {
        Due.sentence("the FAULT (nothing is counted)");
        String[] texts = {"", "x", "n", "n0;", "h0p114,1;", "n3;"};
        for (String text : texts) {
            DraughtsByCandle x = new DraughtsByCandle();
            Due.tell(x, text);
            for (int count : Due.refusals(x)) Due.is("refusals behind \"" + text + "\"", count, 0);
        }
    }
}
