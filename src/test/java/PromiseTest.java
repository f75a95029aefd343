import java.util.Random;

/** Each promise by answers worked out by hand: ordinary inputs, edges and wrong inputs. */
public final class PromiseTest {
    private static final int MIN = Integer.MIN_VALUE;
    private static final int MAX = Integer.MAX_VALUE;

    /** Over wave 0 is thing 1, over wave 1 thing 0; wave 1 shifts in year 0, wave 0 in year 1. */
    private static final String TWO = "wave 1 1 1 1 1 1; wave 3 0 0 2 0 5; party ann 1 4; party bob 3 0;"
        + " party cid 6 2; fares = heavy*2 + goes; dares = nerve; shifts = 30; seed 42;";

    /** Three waves without a choice of what is there but in the middle: thing 2 or 4. */
    private static final String THREE = "wave 0 7 0 0 0 0; wave 0 0 4 0 6 0; wave 0 0 0 0 0 2; party p 2 1;"
        + " party q 5 1; party r 0 0;";

    /** As many waves and parties as can be, with laws of all that they may look at. */
    private static final String MOST = "wave 1 2 3 4 5 6;".repeat(5) + "party a 0 1;party b 1 2;party c 2 3;"
        + "party d 3 4;party e 4 5;party f 9 9;needs=heavy+goes-left/buoys;fares=which*nerve/year;dares=1/goes;"
        + "shifts=left*at*9/buoys;seed 9999;";

    private static int wrong = 0;

    private static void due(int promise, String call, int got, int want) {
        if (got != want) {
            wrong++;
            System.out.println("promise " + promise + ": " + call + " answered " + got + ", due is " + want);
        }
    }

    private static void due(int promise, String call, boolean got, boolean want) {
        due(promise, call, got ? 1 : 0, want ? 1 : 0);
    }

    private static GuessFerry told(String text) {
        GuessFerry x = new GuessFerry();
        Edge.feed(x, text);
        due(4, "read() of " + text, x.read(), 0);
        return x;
    }

    private static void faulty(String text, int fault, int place) {
        GuessFerry x = told("wave 1 2 0 0 0 0; party p 1 1;");
        x.years(1);
        x.hold(1);
        x.tell(0, 1, true);
        Edge.feed(x, text);
        due(4, "read() of " + text, x.read(), fault);
        due(5, "place() of " + text, x.place(), place);
        due(4, "count(8) behind read", x.count(8), 0);
        if (fault != 0) {
            due(4, "count(0) behind a fault", x.count(0), 1);
            due(4, "count(2) behind a fault", x.count(2), 1);
            due(4, "count(9) behind a fault", x.count(9), 1);
            due(4, "count(10) behind a fault", x.count(10), 1);
            due(4, "count(11) behind a fault", x.count(11), 1);
        }
    }

    public static void main(String[] args) {
        newObject();
        tape();
        faults();
        limits();
        lawValues();
        waves();
        parties();
        goes();
        byHand();
        undoing();
        caseAnswers();
        guessAnswers();
        ranks();
        surety();
        partyAnswers();
        yearAnswers();
        tellers();
        slots();
        counts();
        mostWaves();
        noWaves();
        wildCalls();
        System.out.println(wrong == 0 ? "PromiseTest: all answers are as due" : wrong + " answers are not as due");
        if (wrong != 0) {
            System.exit(1);
        }
    }

    private static void newObject() {
        GuessFerry x = new GuessFerry();
        for (int what = 0; what <= 18; what++) {
            due(1, "count(" + what + ")", x.count(what), what == 14 ? 1 : 0);
        }
        due(1, "place()", x.place(), -1);
        due(1, "NONE", GuessFerry.NONE, -1);
        due(14, "undo()", x.undo(), false);
        due(47, "restore(0)", x.restore(0), false);
    }

    private static void tape() {
        GuessFerry x = new GuessFerry();
        for (int i = 1; i <= 100; i++) {
            due(2, "feed " + i, x.feed(0x20202020, 0x20202020, 0x20202020, 0x20202020, 0x20202020), 20 * i);
        }
        due(2, "feed 101", x.feed(0, 0, 0, 0, 0), -1);
        due(8, "count(8)", x.count(8), 2000);
        due(3, "back(2001)", x.back(2001), -1);
        due(3, "back(-1)", x.back(-1), -1);
        due(3, "back(least)", x.back(MIN), -1);
        due(3, "back(0)", x.back(0), 2000);
        due(3, "back(19)", x.back(19), 1981);
        due(2, "feed into 1981", x.feed(0, 0, 0, 0, 0), -1);
        due(2, "count(8)", x.count(8), 1981);
        due(3, "back(1)", x.back(1), 1980);
        due(2, "feed into 1980", x.feed(0x73656564, 0x20373b20, 0x20202020, 0x20202020, 0x202020ff), 2000);
        due(3, "back(1)", x.back(1), 1999);
        due(4, "read()", x.read(), 0);
        due(5, "place()", x.place(), -1);
        due(4, "count(8)", x.count(8), 0);
        due(3, "back(1) of none", x.back(1), -1);
        due(3, "back(0) of none", x.back(0), 0);
        // The highest byte of the first number comes first.
        x.feed(0x7761ff65, 0, 0, 0, 0);
        due(4, "read()", x.read(), 1);
        due(5, "place()", x.place(), 0);
        due(4, "read()", x.read(), 0);
        due(5, "place()", x.place(), -1);
    }

    private static void faults() {
        faulty("", 0, -1);
        faulty(" \t\r\n ", 0, -1);
        faulty("wave1 2 3 4 5 6;party ab1 2;seed0009;", 0, -1);
        faulty("wave 1 2 3 4 5 6", 1, 16);
        faulty("wave 1 2 3 4 5 6  ", 1, 18);
        faulty("wave 1 2 3 4 5;", 1, 14);
        faulty("wave 1 2 3 4 5 6 7;", 1, 17);
        faulty("wave 1 2 3 4 5 x;", 1, 15);
        faulty(";", 1, 0);
        faulty("wave 1 0 0 0 0 0;;", 1, 17);
        faulty("fish 1;", 1, 0);
        faulty("party p 1 2", 1, 11);
        faulty("party 1 1 2;", 1, 6);
        faulty("party seed 1 2;", 1, 6);
        faulty("party at 1 2;", 1, 6);
        faulty("party abcdefgh 1 2;", 0, -1);
        faulty("party abcdefghi 1 2;", 1, 6);
        faulty("party p 12345 2;", 1, 8);
        faulty("party p 0009 2;", 0, -1);
        faulty("party P 1 2;", 1, 6);
        faulty("seed 1.;", 1, 6);
        faulty("seed 1 \u0000;", 1, 7);
        faulty("seed 1 \u00a0;", 1, 7);
        faulty("seed;", 1, 4);
        faulty("seed = 1;", 1, 5);
        faulty("seed -1;", 1, 5);
        faulty("needs heavy;", 1, 6);
        faulty("needs = ;", 1, 8);
        faulty("needs = heavy", 1, 13);
        faulty("needs = fish;", 1, 8);
        faulty("needs = wave;", 1, 8);
        faulty("needs = -1;", 1, 8);
        faulty("needs = 1 +;", 1, 11);
        faulty("needs = 1 + * 2;", 1, 12);
        faulty("needs = 1 2;", 1, 10);
        faulty("needs = (1;", 1, 10);
        faulty("needs = 1);", 1, 9);
        faulty("needs = ();", 1, 9);
        faulty("needs = 1 < 2;", 1, 10);
        faulty("needs = if 1 then 2 else 3;", 1, 13);
        faulty("needs = if 1 < 2 then 3;", 1, 23);
        faulty("needs = if 1 < 2 < 3 then 3 else 4;", 1, 17);
        faulty("needs = if (1 < 2) then 3 else 4;", 1, 14);
        faulty("needs = if 1 < 2 then if 3 < 4 then 5 else 6;", 1, 22);
        faulty("needs = if 1<2then3else(if 1<2 then 3 else 4);", 1, 24);
        faulty("needs = if 1<2then3else if at<odds then heavy else nerve*left/year-which+buoys+goes;", 0, -1);
        faulty("party p 1 2; party q 1 2; party p 1 2;", 3, 32);
        faulty("party p 1 2; party p 10 2;", 3, 19);
        faulty("party p 10 2; party p 1 2;", 5, 8);
        faulty("party a 1 2;party aa 1 2;party b 1 2;party ab 1 2;party ba 1 2;party zzzzzzzz 1 2;", 0, -1);
        faulty("party ba 1 2;party zzzzzzzz 1 2;party ab 1 2;party zzzzzzzz 1 2;", 3, 51);
        faulty("party p 9 10;", 5, 10);
        faulty("party p 1 2; party p 1 2; fish", 1, 26);
        faulty("wave 0 0 0 0 0 0;", 5, 15);
        faulty("wave 0 0 0 0 0 0000; seed x;", 1, 26);
        faulty("wave 0 0 0 0 0 1;", 0, -1);
        faulty("wave 9 9 9 9 9 9;", 0, -1);
        faulty("wave 9 9 9 9 9 10;", 5, 15);
        faulty("wave 9 10 9 99 9 9;", 5, 7);
        faulty("wave 0 0 0 0 0 0; party p 10 1;", 5, 15);
        faulty("party p 10 1; wave 0 0 0 0 0 0;", 5, 8);
        faulty("needs = 9999; seed 9999;", 0, -1);
    }

    private static void limits() {
        String wave = "wave 1 0 0 0 0 0;";
        faulty(wave.repeat(5), 0, -1);
        faulty(wave.repeat(6), 2, 85);
        faulty(wave.repeat(5) + "wave fish", 2, 85);
        faulty(wave.repeat(4) + "wave fish", 1, 73);
        faulty("wave 10 0 0 0 0 0;" + wave.repeat(5), 2, 86);
        String parties = "party a 1 1;party b 1 1;party c 1 1;party d 1 1;party e 1 1;party f 1 1;";
        faulty(parties, 0, -1);
        faulty(parties + "party a 1 1;", 2, 72);
        faulty("seed 1;".repeat(9) + "needs = 1;".repeat(9), 0, -1);
        String four = "if 1<2 then 3 else ".repeat(4);
        faulty("needs = " + four + "1; fares = " + four + "1;", 0, -1);
        faulty("needs = " + four + "if 1<2 then 3 else 4;", 2, 84);
        faulty("needs = " + four + "if;", 2, 84);
        faulty("needs = ((((((1))))));", 0, -1);
        faulty("needs = (((((((1)))))));", 2, 14);
        faulty("needs = ((((((1))))))+((((((1))))));", 0, -1);
        faulty("needs = ((((((1+(2)))))));", 2, 16);
        // 400 and 401 tokens: "needs = 1", 198 times "+1", ";".
        faulty("needs=1" + "+1".repeat(198) + ";", 0, -1);
        faulty("needs=1" + "+1".repeat(198) + ";needs=1;", 2, 404);
        faulty("needs=1" + "+1".repeat(198) + "+1;", 2, 404);
        faulty("needs=1" + "+1".repeat(198) + ";fish", 1, 404);
        faulty("needs=1" + "+1".repeat(198) + ";abcdefghi", 1, 404);
        faulty("needs=1" + "+1".repeat(198) + "+", 1, 404);
        faulty("seed 1;needs=1" + "+1".repeat(197) + "+", 2, 408);
        faulty("seed 1;needs=1" + "+1".repeat(197) + " 1", 1, 409);
        faulty("needs=1" + "+1".repeat(198), 1, 403);
    }

    private static GuessFerry withNeeds(String law) {
        return told("wave 4 0 6 0 0 0; wave 1 2 3 0 0 0; party p 2 3; party q 5 7; needs = " + law + ";");
    }

    private static void needed(String law, int party, int wave, int thing, int want) {
        due(9, "needs(" + party + ", " + wave + ", " + thing + ") by " + law,
            withNeeds(law).needs(party, wave, thing), want);
    }

    private static void lawValues() {
        needed("at", 0, 1, 0, 1);
        needed("odds", 0, 0, 2, 6);
        needed("odds", 0, 0, 1, 0);
        needed("heavy", 1, 0, 0, 5);
        needed("nerve", 1, 0, 0, 7);
        needed("left", 0, 1, 0, 3);
        needed("year", 0, 0, 0, 0);
        needed("which", 1, 0, 0, 1);
        needed("buoys", 0, 0, 0, 0);
        needed("goes", 0, 0, 0, 0);
        needed("9 - 2 - 3", 0, 0, 0, 4);
        needed("8 / 2 / 2", 0, 0, 0, 2);
        needed("7 / 2 * 2", 0, 0, 0, 6);
        needed("2 + 3 * 2 - 1", 0, 0, 0, 7);
        needed("(2 + 3) * (2 - 1)", 0, 0, 0, 5);
        needed("5 + (0 - 7) / 2", 0, 0, 0, 2);
        needed("5 - 7", 0, 0, 0, 0);
        needed("50", 0, 0, 0, 9);
        needed("1 / 0 + 5", 0, 0, 0, 0);
        needed("5 + 0 * (1 / (at - at))", 0, 0, 0, 0);
        needed("if 1 < 2 then 3 else 1 / 0", 0, 0, 0, 3);
        needed("if 2 < 2 then 1 / 0 else 4", 0, 0, 0, 4);
        needed("if 2 < 2 then 3 else if 1 < 0 / 0 then 3 else 5", 0, 0, 0, 0);
        needed("if 1 < 2 then 3 else if 1 / 0 < 1 then 3 else 5", 0, 0, 0, 3);
        needed("if 1 / 0 < 1 then 3 else 5", 0, 0, 0, 0);
        needed("if 1 < 2 then 1 / 0 else 5", 0, 0, 0, 0);
        needed("if 3 < 2 then 1 else if 2 < 2 then 2 else if 1 < 2 then 3 else if 1 < 2 then 4 else 5", 0, 0, 0, 3);
        needed("if 9 < 0 then 1 else if 9 < 1 then 2 else if 9 < 2 then 3 else if 9 < 3 then 4 else 5", 0, 0, 0, 5);
        // 9999 * 9999 * 9999 wraps to -1,027,349,969.
        needed("15 + 9999*9999*9999 / 9999 / 9999", 0, 0, 0, 5);
        // The least number by -1 is itself.
        needed("(0 - 2*1024*1024*1024) / (0 - 1) / (1024*1024*1024) + 5", 0, 0, 0, 3);
        // All depths with two that wait.
        needed("1+1*(1+1*(1+1*(1+1*(1+1*(1+1*(1+1*2))))))", 0, 0, 0, 9);
        needed("9-1*(9-1*(9-1*(9-1*(9-1*(9-1*(9-1*4))))))", 0, 0, 0, 5);
        needed("at" + "*2+1".repeat(70), 0, 0, 0, 9);
        needed("5" + "-1+1".repeat(80) + "-2", 0, 0, 0, 3);
        due(9, "the longest law", told("fares=7" + "+1-1".repeat(99) + ";").count(1), 0);
        due(8, "a long law", told("party p 0 0;fares=7" + "+1-1".repeat(95) + "+3;").party(0, 4), 10);
        due(9, "the last law holds", withNeeds("1; needs = 2 + heavy; seed 3; needs = 3").needs(0, 0, 0), 3);
        due(9, "needs if not told", told("wave 1 0 0 0 0 0; party p 7 0;").needs(0, 0, 5), 7);
        GuessFerry x = withNeeds("left * 2 + buoys");
        x.buoy(0, 2, true);
        x.buoy(0, 5, true);
        due(9, "needs(0, 0, 0) with two buoys", x.needs(0, 0, 0), 4);
        due(9, "needs(2, 0, 0)", x.needs(2, 0, 0), -1);
        due(9, "needs(-1, 0, 0)", x.needs(-1, 0, 0), -1);
        due(9, "needs(0, 2, 0)", x.needs(0, 2, 0), -1);
        due(9, "needs(0, -1, 0)", x.needs(0, -1, 0), -1);
        due(9, "needs(0, 0, 6)", x.needs(0, 0, 6), -1);
        due(9, "needs(0, 0, -1)", x.needs(0, 0, -1), -1);
    }

    private static void waves() {
        GuessFerry x = told(TWO);
        due(6, "wave(0, 0)", x.wave(0, 0), 63);
        due(6, "wave(1, 0)", x.wave(1, 0), 41);
        due(6, "wave(1, 1)", x.wave(1, 1), -2);
        due(6, "wave(1, 2)", x.wave(1, 2), 0);
        due(6, "wave(1, 3)", x.wave(1, 3), 0);
        due(6, "wave(0, 4)", x.wave(0, 4), 1);
        due(6, "wave(1, 4)", x.wave(1, 4), 0);
        due(6, "wave(1, 5)", x.wave(1, 5), 30);
        due(6, "wave(1, 6)", x.wave(1, 6), -1);
        due(6, "wave(1, -1)", x.wave(1, -1), -1);
        due(6, "wave(2, 0)", x.wave(2, 0), -1);
        due(6, "wave(-1, 0)", x.wave(-1, 0), -1);
        x.buoy(1, 3, true);
        x.buoy(1, 4, true);
        due(6, "wave(1, 0) with buoys", x.wave(1, 0), 33);
        due(6, "wave(1, 2) with buoys", x.wave(1, 2), 24);
        due(7, "odds(1, 5)", x.odds(1, 5), 5);
        due(7, "odds(1, 3)", x.odds(1, 3), 2);
        due(7, "odds(1, 1)", x.odds(1, 1), 0);
        due(7, "odds(1, 6)", x.odds(1, 6), -1);
        due(7, "odds(1, -1)", x.odds(1, -1), -1);
        due(7, "odds(2, 0)", x.odds(2, 0), -1);
        due(7, "odds(-1, 0)", x.odds(-1, 0), -1);
        GuessFerry y = told("wave 1 1 1 0 0 0; wave 1 0 0 0 0 0; party p 9 9;"
            + " shifts = at * 50 + left * 10 + buoys + year + heavy * 1000 + nerve * 1000 + which + goes + odds;");
        due(6, "wave(0, 5)", y.wave(0, 5), 30);
        due(6, "wave(1, 5)", y.wave(1, 5), 60);
        y.buoy(0, 5, true);
        y.buoy(0, 0, true);
        due(6, "wave(0, 5) with buoys", y.wave(0, 5), 22);
        due(6, "shifts held to 100", told("wave 1 0 0 0 0 0; shifts = 101;").wave(0, 5), 100);
        due(6, "shifts held to 0", told("wave 1 0 0 0 0 0; shifts = 1 - 2;").wave(0, 5), 0);
        due(6, "shifts if not told", told("wave 1 0 0 0 0 0;").wave(0, 5), 0);
    }

    private static void parties() {
        GuessFerry x = told(TWO);
        due(8, "party(1, 0)", x.party(1, 0), 3);
        due(8, "party(0, 1)", x.party(0, 1), 4);
        due(8, "party(0, 2)", x.party(0, 2), 0);
        due(8, "party(0, 3)", x.party(0, 3), 0);
        due(8, "party(2, 4)", x.party(2, 4), 12);
        due(8, "party(0, 5)", x.party(0, 5), 1);
        due(8, "party(1, 5)", x.party(1, 5), 0);
        due(8, "party(1, 6)", x.party(1, 6), -1);
        due(8, "party(1, -1)", x.party(1, -1), -1);
        due(8, "party(3, 0)", x.party(3, 0), -1);
        due(8, "party(-1, 0)", x.party(-1, 0), -1);
        String party = "wave 9 9 0 0 0 0; wave 1 0 0 0 0 0; party p 2 3; party q 4 5;";
        GuessFerry y = told(party + "fares = at + odds + left + buoys + heavy * 10 + which; dares = at+odds+left+buoys;");
        y.buoy(0, 0, true);
        due(8, "party(0, 4)", y.party(0, 4), 20);
        due(8, "party(1, 4)", y.party(1, 4), 41);
        due(8, "party(0, 5)", y.party(0, 5), 0);
        GuessFerry z = told(party + "fares = heavy * 50 - 100; dares = 4 - nerve;");
        due(8, "fares held to 0", z.party(0, 4), 0);
        due(8, "fares held to 99", z.party(1, 4), 99);
        due(8, "dares 1", z.party(0, 5), 1);
        due(8, "dares -1", z.party(1, 5), 0);
        GuessFerry none = told(party);
        due(8, "fares if not told", none.party(0, 4), 1);
        due(8, "dares if not told", none.party(0, 5), 1);
        GuessFerry years = told(party + "fares = year; dares = year - 1;");
        years.years(2);
        due(8, "fares by year", years.party(0, 4), 2);
        due(8, "dares by year", years.party(0, 5), 1);
    }

    private static void goes() {
        GuessFerry x = told(TWO);
        due(10, "go(3, 0)", x.go(3, 0), -1);
        due(10, "go(-1, 0)", x.go(-1, 0), -1);
        due(10, "go(0, 36)", x.go(0, 36), -1);
        due(10, "go(0, -1)", x.go(0, -1), -1);
        due(10, "count(9)", x.count(9), 0);
        // Thing 2 is not over wave 0: let down there.
        due(10, "go(0, 2)", x.go(0, 2), 0);
        due(10, "wave(0, 2)", x.wave(0, 2), 4);
        due(10, "wave(0, 0)", x.wave(0, 0), 59);
        due(10, "party(0, 2)", x.party(0, 2), 0);
        due(10, "party(0, 3)", x.party(0, 3), 1);
        due(10, "count(3)", x.count(3), 2);
        // Thing 1 is over wave 0, thing 5 not over wave 1.
        due(10, "go(0, 31)", x.go(0, 31), 1);
        due(10, "wave(0, 1)", x.wave(0, 1), 1);
        due(10, "wave(0, 0)", x.wave(0, 0), 2);
        due(10, "wave(1, 2)", x.wave(1, 2), 32);
        due(10, "wave(1, 1)", x.wave(1, 1), -2);
        due(10, "count(3)", x.count(3), 5);
        // The odds 1 over wave 0 are below bob's 3: sunk, and nothing is told.
        due(10, "go(1, 3)", x.go(1, 3), 0);
        due(10, "party(1, 2)", x.party(1, 2), 1);
        due(10, "wave(0, 2) behind sinking", x.wave(0, 2), 4);
        due(10, "count(3)", x.count(3), 11);
        due(10, "go(1, 1) lost", x.go(1, 1), -1);
        due(10, "party(1, 3)", x.party(1, 3), 1);
        due(10, "go(0, 1)", x.go(0, 1), 2);
        due(10, "party(0, 2)", x.party(0, 2), 2);
        due(10, "wave(1, 1)", x.wave(1, 1), 0);
        due(10, "wave(1, 2)", x.wave(1, 2), 32);
        due(10, "go(0, 1) over", x.go(0, 1), -1);
        due(10, "count(3)", x.count(3), 15);
        due(10, "count(7)", x.count(7), 4);
        // A thing without odds bears whom nothing is needed for; what is found stays found.
        GuessFerry y = told("wave 0 9 0 0 0 0; party p 0 0;");
        due(10, "go(0, 1)", y.go(0, 1), 1);
        y.fetch(0);
        due(10, "go(0, 5)", y.go(0, 5), 0);
        due(10, "party(0, 2)", y.party(0, 2), 0);
        due(10, "wave(0, 0)", y.wave(0, 0), 2);
        due(10, "wave(0, 2)", y.wave(0, 2), 32);
        due(10, "go by a buoy's thing", y.go(0, 5), 0);
        due(10, "wave(0, 2)", y.wave(0, 2), 32);
        due(10, "no waves", told("party p 0 0;").go(0, 0), -1);
        // As it went: the first go is by goes 0, so that all waves bear.
        GuessFerry z = told("wave 0 9 0 0 0 0; wave 5 0 0 0 0 0; party p 0 0; needs = goes * 9;");
        due(10, "go(0, 1)", z.go(0, 1), 2);
        z.fetch(0);
        due(10, "go(0, 1) again", z.go(0, 1), 1);
        due(10, "party(0, 2)", z.party(0, 2), 1);
    }

    private static void byHand() {
        GuessFerry x = told(TWO);
        due(11, "buoy(1, 3, true)", x.buoy(1, 3, true), true);
        due(11, "buoy(1, 3, true) again", x.buoy(1, 3, true), false);
        due(11, "buoy(1, 1, true)", x.buoy(1, 1, true), true);
        due(11, "buoy(0, 1, true) of what is there", x.buoy(0, 1, true), true);
        due(11, "wave(0, 0)", x.wave(0, 0), 61);
        due(11, "buoy(1, 3, false)", x.buoy(1, 3, false), true);
        due(11, "buoy(1, 3, false) again", x.buoy(1, 3, false), false);
        due(11, "wave(1, 2)", x.wave(1, 2), 2);
        due(11, "buoy(2, 0, true)", x.buoy(2, 0, true), false);
        due(11, "buoy(-1, 0, true)", x.buoy(-1, 0, true), false);
        due(11, "buoy(0, 6, true)", x.buoy(0, 6, true), false);
        due(11, "buoy(0, -1, false)", x.buoy(0, -1, false), false);
        due(11, "count(9)", x.count(9), 4);
        due(12, "fetch(1) here", x.fetch(1), false);
        x.go(1, 0);
        due(12, "fetch(1) lost", x.fetch(1), true);
        due(12, "party(1, 2)", x.party(1, 2), 0);
        due(12, "party(1, 3)", x.party(1, 3), 1);
        due(12, "fetch(1) again", x.fetch(1), false);
        x.go(0, 1);
        due(12, "fetch(0) over", x.fetch(0), true);
        due(12, "fetch(3)", x.fetch(3), false);
        due(12, "fetch(-1)", x.fetch(-1), false);
        due(12, "count(9)", x.count(9), 8);
        GuessFerry y = told(TWO);
        y.buoy(0, 0, true);
        y.buoy(1, 5, true);
        y.go(0, 1);
        due(13, "years(-1)", y.years(-1), -1);
        due(13, "years(41)", y.years(41), -1);
        due(13, "years(0)", y.years(0), 0);
        due(13, "count(9)", y.count(9), 3);
        due(13, "years(1)", y.years(1), 1);
        due(13, "wave(1, 3)", y.wave(1, 3), 1);
        due(13, "wave(1, 1)", y.wave(1, 1), -2);
        due(13, "wave(1, 2)", y.wave(1, 2), 0);
        due(13, "wave(1, 0)", y.wave(1, 0), 41);
        due(13, "wave(0, 3)", y.wave(0, 3), 0);
        due(13, "wave(0, 1)", y.wave(0, 1), 1);
        due(13, "wave(0, 2)", y.wave(0, 2), 1);
        due(13, "years(4)", y.years(4), 5);
        due(13, "wave(0, 3)", y.wave(0, 3), 2);
        due(13, "wave(1, 3)", y.wave(1, 3), 3);
        due(13, "wave(0, 4)", y.wave(0, 4), 4);
        due(13, "wave(1, 4)", y.wave(1, 4), 5);
        due(13, "count(9)", y.count(9), 5);
        due(13, "years(0)", y.years(0), 5);
        due(13, "years(40)", y.years(40), 45);
    }

    private static void undoing() {
        GuessFerry x = told(TWO);
        x.go(0, 2);
        x.go(0, 1);
        x.years(5);
        x.fetch(0);
        x.buoy(0, 3, true);
        due(14, "undo() of buoy", x.undo(), true);
        due(14, "wave(0, 2)", x.wave(0, 2), 0);
        due(14, "undo() of fetch", x.undo(), true);
        due(14, "party(0, 2)", x.party(0, 2), 2);
        due(14, "undo() of years", x.undo(), true);
        due(14, "count(2)", x.count(2), 0);
        due(14, "wave(0, 3)", x.wave(0, 3), 0);
        due(14, "wave(0, 1)", x.wave(0, 1), 1);
        due(14, "wave(0, 2)", x.wave(0, 2), 4);
        due(14, "undo() of go", x.undo(), true);
        due(14, "party(0, 2)", x.party(0, 2), 0);
        due(14, "party(0, 3)", x.party(0, 3), 1);
        due(14, "wave(0, 1)", x.wave(0, 1), -2);
        due(14, "count(3)", x.count(3), 2);
        due(14, "undo() of go", x.undo(), true);
        due(14, "count(3)", x.count(3), 0);
        due(14, "wave(0, 2)", x.wave(0, 2), 0);
        due(14, "undo() of none", x.undo(), false);
        for (int i = 1; i <= 45; i++) {
            x.years(1);
        }
        due(14, "count(9)", x.count(9), 40);
        for (int i = 1; i <= 40; i++) {
            due(14, "undo " + i, x.undo(), true);
            due(14, "count(2) behind undo " + i, x.count(2), 45 - i);
        }
        due(14, "undo 41", x.undo(), false);
        due(14, "count(2)", x.count(2), 5);
        x.years(1);
        Edge.feed(x, "seed 1;");
        x.read();
        due(14, "undo() behind read()", x.undo(), false);
        due(4, "count(2) behind read()", x.count(2), 0);
        due(4, "count(0) behind read()", x.count(0), 0);
    }

    private static void caseAnswers() {
        GuessFerry x = told(TWO);
        due(15, "cases()", x.cases(), 18);
        due(17, "all()", x.all(), 60);
        due(16, "chance(0)", x.chance(0), 3);
        due(16, "chance(35)", x.chance(35), 5);
        due(16, "chance(6)", x.chance(6), 0);
        due(16, "chance(36)", x.chance(36), -1);
        due(16, "chance(-1)", x.chance(-1), -1);
        due(18, "likeliest()", x.likeliest(), 30);
        due(21, "enough()", x.enough(), 8);
        due(26, "share(1, 5)", x.share(1, 5), 30);
        due(26, "share(0, 4)", x.share(0, 4), 10);
        due(26, "share(1, 4)", x.share(1, 4), 0);
        due(26, "share(1, 6)", x.share(1, 6), -1);
        due(26, "share(2, 0)", x.share(2, 0), -1);
        due(26, "share(-1, 0)", x.share(-1, 0), -1);
        due(26, "share(0, -1)", x.share(0, -1), -1);
        due(31, "spread(1)", x.spread(1), 3);
        due(31, "spread(0)", x.spread(0), 0);
        due(31, "spread(2)", x.spread(2), -1);
        due(31, "spread(-1)", x.spread(-1), -1);
        due(36, "open()", x.open(), 3);
        x.buoy(1, 5, true);
        due(15, "cases() with a buoy", x.cases(), 12);
        due(17, "all() with a buoy", x.all(), 30);
        due(16, "chance(35) with a buoy", x.chance(35), 0);
        due(18, "likeliest() with a buoy", x.likeliest(), 0);
        due(26, "share(1, 5) with a buoy", x.share(1, 5), 0);
        due(31, "spread(1) with a buoy", x.spread(1), 1);
        x.go(0, 19);
        due(15, "cases() with one found", x.cases(), 1);
        due(36, "open() with one found", x.open(), 0);
        due(18, "likeliest() with one found", x.likeliest(), 1);
        due(31, "spread(0) with one found", x.spread(0), 0);
        x.buoy(1, 0, true);
        due(15, "cases() of none", x.cases(), 0);
        due(17, "all() of none", x.all(), 0);
        due(18, "likeliest() of none", x.likeliest(), -2);
        due(21, "enough() of none", x.enough(), -2);
        due(26, "share(0, 1) of none", x.share(0, 1), 0);
        due(31, "spread(1) of none", x.spread(1), 0);
        due(21, "enough() of one", told("wave 1 0 0 0 0 0; wave 0 1 0 0 0 0;").enough(), 1);
    }

    private static void guessAnswers() {
        GuessFerry x = told(THREE);
        due(22, "left(193)", x.left(1 + 12 + 180), 1);
        due(22, "left wrong ahead", x.left(0), 2);
        due(22, "left wrong in the middle", x.left(1 + 6), 2);
        due(22, "left(216)", x.left(216), -1);
        due(22, "left(-1)", x.left(-1), -1);
        due(23, "wisest(0)", x.wisest(0), 13);
        due(23, "wisest(1)", x.wisest(1), 1);
        due(23, "wisest(2)", x.wisest(2), -1);
        due(23, "wisest(-1)", x.wisest(-1), -1);
        GuessFerry y = told(TWO);
        due(22, "left(0)", y.left(0), 15);
        due(22, "left(6)", y.left(6), 15);
        y.go(0, 31);
        due(22, "left(1) with one found", y.left(1), 1);
        due(22, "left(31) with a buoy", y.left(31), 2);
        due(22, "left(0) with one found", y.left(0), 2);
        due(23, "wisest(0) with one found", y.wisest(0), 1);
        y.buoy(1, 0, true);
        y.buoy(1, 3, true);
        due(22, "left(0) of none", y.left(0), -2);
        due(23, "wisest(0) of none", y.wisest(0), -2);
        due(23, "wisest(1) of none", y.wisest(1), -2);
        due(23, "wisest(2) of none", y.wisest(2), -1);
        due(28, "alike(0, 0)", x.alike(0, 0), 3);
        due(28, "alike(0, 1)", x.alike(0, 1), 0);
        due(28, "alike(7, 1)", x.alike(7, 1), 1);
        due(28, "alike(215, 35)", x.alike(215, 35), 2);
        due(28, "alike(216, 0)", x.alike(216, 0), -1);
        due(28, "alike(0, 216)", x.alike(0, 216), -1);
        due(28, "alike(-1, -1)", x.alike(-1, -1), -1);
    }

    private static void ranks() {
        GuessFerry x = told(TWO);
        for (int i = 0; i < 6; i++) {
            due(25, "ranked(" + i + ")", x.ranked(i), 30 + i);
            due(24, "rank(" + (30 + i) + ")", x.rank(30 + i), i);
            due(25, "ranked(" + (6 + i) + ")", x.ranked(6 + i), i);
            due(24, "rank(" + i + ")", x.rank(i), 6 + i);
            due(25, "ranked(" + (12 + i) + ")", x.ranked(12 + i), 18 + i);
            due(24, "rank(" + (18 + i) + ")", x.rank(18 + i), 12 + i);
        }
        due(25, "ranked(18)", x.ranked(18), -1);
        due(25, "ranked(-1)", x.ranked(-1), -1);
        due(24, "rank(6)", x.rank(6), -2);
        due(24, "rank(36)", x.rank(36), -1);
        due(24, "rank(-1)", x.rank(-1), -1);
        GuessFerry y = told("wave 1 1 1 1 1 1; wave 1 1 1 1 1 1;");
        due(25, "ranked(19)", y.ranked(19), 19);
        due(25, "ranked(20)", y.ranked(20), -1);
        due(24, "rank(35)", y.rank(35), 35);
        x.buoy(1, 0, true);
        x.buoy(1, 3, true);
        x.buoy(1, 5, true);
        due(24, "rank(0) of none", x.rank(0), -2);
        due(25, "ranked(0) of none", x.ranked(0), -1);
    }

    private static void surety() {
        // By 5, then 3, then 2 over the second wave; party 1 needs 3.
        GuessFerry x = told("wave 0 7 0 0 0 0; wave 3 0 0 2 0 5; party p 0 0; party q 3 0; party r 8 0;");
        due(27, "sure(0, 1)", x.sure(0, 1), 35);
        due(27, "sure(0, 2)", x.sure(0, 2), 56);
        due(27, "sure(0, 3)", x.sure(0, 3), 70);
        due(27, "sure(0, 8)", x.sure(0, 8), 70);
        due(27, "sure(1, 2)", x.sure(1, 2), 56);
        due(27, "sure(1, 3)", x.sure(1, 3), 56);
        due(27, "sure(2, 8)", x.sure(2, 8), 0);
        due(27, "sure(0, 0)", x.sure(0, 0), -1);
        due(27, "sure(0, 9)", x.sure(0, 9), -1);
        due(27, "sure(3, 1)", x.sure(3, 1), -1);
        due(27, "sure(-1, 1)", x.sure(-1, 1), -1);
        due(27, "nothing happened", x.count(9) + x.count(12) + x.count(13) + x.count(7), 0);
        x.go(2, 0);
        due(27, "sure(2, 1) lost", x.sure(2, 1), -1);
        due(27, "no waves", told("party p 0 0;").sure(0, 1), -1);
        // As it is then: each go and each buoy makes it need more.
        String two = "wave 0 7 0 0 0 0; wave 3 0 0 2 0 5; party p 0 0;";
        due(27, "needs by goes", told(two + "needs = 2 + goes;").sure(0, 8), 56);
        due(27, "needs by buoys", told(two + "needs = buoys * 2;").sure(0, 8), 56);
        due(27, "needs by left", told(two + "needs = 9 / left - 3;").sure(0, 8), 56);
        due(27, "needs too much where one is left", told(two + "needs = 9 / left - 1;").sure(0, 8), 0);
        // By 0 and 1, by 1 and 1 if let down at the first wave, by 0 and 0 if at the second.
        due(27, "two waves", told("wave 1 1 0 0 0 0; wave 2 3 0 0 0 0; party p 0 0;").sure(0, 2), 8);
    }

    private static void partyAnswers() {
        GuessFerry x = told(THREE);
        due(19, "bears(0, 193)", x.bears(0, 193), 3);
        due(19, "bears(0, 13)", x.bears(0, 13), 2);
        due(19, "bears(1, 205)", x.bears(1, 205), 2);
        due(19, "bears(1, 193)", x.bears(1, 193), 1);
        due(19, "bears(2, 0)", x.bears(2, 0), 3);
        due(19, "bears(3, 0)", x.bears(3, 0), -1);
        due(19, "bears(-1, 0)", x.bears(-1, 0), -1);
        due(19, "bears(0, 216)", x.bears(0, 216), -1);
        due(19, "bears(0, -1)", x.bears(0, -1), -1);
        due(20, "safest(0)", x.safest(0), 205);
        due(20, "safest(1)", x.safest(1), -2);
        due(20, "safest(2)", x.safest(2), 205);
        due(20, "safest(3)", x.safest(3), -1);
        due(20, "safest(-1)", x.safest(-1), -1);
        due(30, "stuck()", x.stuck(), 2);
        due(29, "sunk(193)", x.sunk(193), 2);
        due(29, "sunk(0)", x.sunk(0), 3);
        due(29, "sunk(216)", x.sunk(216), -1);
        due(29, "sunk(-1)", x.sunk(-1), -1);
        due(33, "chosen()", x.chosen(), 0);
        due(35, "darers()", x.darers(), 7);
        x.buoy(1, 4, true);
        due(20, "safest(0) with a buoy", x.safest(0), 193);
        due(19, "bears(0, 205) with a buoy", x.bears(0, 205), 3);
        x.go(1, 0);
        due(20, "safest(1) lost", x.safest(1), -2);
        due(30, "stuck() lost", x.stuck(), 0);
        due(29, "sunk(0) lost", x.sunk(0), 1);
        due(35, "darers() lost", x.darers(), 5);
        x.buoy(1, 2, true);
        due(33, "chosen() of none", x.chosen(), -2);
        due(30, "stuck() of none", x.stuck(), 5);
        GuessFerry y = told("wave 2 9 3 0 0 0; party a 4 0; party b 1 9; party c 4 1; fares = heavy * 10 + goes;"
            + " dares = nerve; needs = 0;");
        due(32, "dearest(0)", y.dearest(0), 0);
        due(32, "dearest(1)", y.dearest(1), 40);
        due(32, "dearest(2)", y.dearest(2), -1);
        due(32, "dearest(-1)", y.dearest(-1), -1);
        y.go(2, 5);
        due(32, "dearest(0) behind a go", y.dearest(0), 2);
        due(32, "dearest(1) behind a go", y.dearest(1), 41);
        due(32, "dearest(0) of none", told("wave 1 0 0 0 0 0;").dearest(0), -2);
        due(32, "dearest(1) of none", told("wave 1 0 0 0 0 0;").dearest(1), -2);
        due(32, "dearest(2) of none", told("wave 1 0 0 0 0 0;").dearest(2), -1);
        due(35, "darers()", y.darers(), 6);
        // Odds of 8 do not bear party 0, which has 3 as its best.
        GuessFerry z = told("wave 2 8 3 3 0 0; party a 0 0; party b 0 0; party c 0 0;"
            + " needs = if 7 < odds - which * 100 then 9 else 0;");
        due(20, "safest(0) of alike ones", z.safest(0), 2);
        due(20, "safest(1)", z.safest(1), 1);
        due(33, "chosen() of alike ones", z.chosen(), 1);
        due(20, "needs of 10 held to 9", told("wave 2 9 3 0 0 0; party a 0 0; needs = 10;").safest(0), 1);
        allGoes();
    }

    private static void allGoes() {
        // Thing 1 is over wave 0, thing 0 over wave 1, as in TWO.
        String waves = "wave 1 1 0 0 0 0; wave 3 0 0 2 0 5; seed 42;";
        GuessFerry x = told(waves + "party a 0 1; party b 0 0; party c 0 1; party d 0 1; party e 9 1; party f 0 1;"
            + " dares = nerve; fares = 10 + which;");
        int first = x.wave(0, 4);
        int second = x.wave(1, 4);
        // Each that goes tries the likeliest that is left: first over wave 0 thing 0, over wave 1 thing 5.
        int downs = first + (second == 5 ? 0 : second == 0 ? 1 : 2);
        int goers = 4;
        due(34, "allGo(0)", x.allGo(0), Math.max(0, goers - downs));
        due(34, "allGo(1)", x.allGo(1), 0);
        due(34, "allGo(2)", x.allGo(2), 10 + 12 + 13 + 15);
        due(34, "allGo(3)", x.allGo(3), -1);
        due(34, "allGo(-1)", x.allGo(-1), -1);
        due(34, "nothing happened", x.count(3) + x.count(7) + x.count(12) + x.count(9), 0);
        x.go(4, 0);
        due(34, "allGo(1) with one lost already", x.allGo(1), 1);
        due(34, "allGo(2) with something paid", x.allGo(2), 50);
        x.go(1, first + 6 * second);
        due(34, "allGo(0) with one over already", x.allGo(0), 5);
    }

    private static void yearAnswers() {
        GuessFerry x = told(TWO);
        x.buoy(0, 0, true);
        x.buoy(1, 5, true);
        due(37, "then(0, 0, 0)", x.then(0, 0, 0), 62);
        due(37, "then(0, 1, 0)", x.then(0, 1, 0), 62);
        due(37, "then(0, 2, 0)", x.then(0, 2, 0), 63);
        due(37, "then(1, 0, 0)", x.then(1, 0, 0), 9);
        due(37, "then(1, 1, 0)", x.then(1, 1, 0), 41);
        due(37, "then(0, 5, 1)", x.then(0, 5, 1), 2);
        due(37, "then(1, 5, 1)", x.then(1, 5, 1), 3);
        due(37, "then(0, 5, 2)", x.then(0, 5, 2), 4);
        due(37, "then(1, 3, 2)", x.then(1, 3, 2), 5);
        due(37, "then(1, 0, 2)", x.then(1, 0, 2), 0);
        due(37, "then(1, 41, 0)", x.then(1, 41, 0), -1);
        due(37, "then(1, -1, 0)", x.then(1, -1, 0), -1);
        due(37, "then(1, 0, 3)", x.then(1, 0, 3), -1);
        due(37, "then(1, 0, -1)", x.then(1, 0, -1), -1);
        due(37, "then(2, 0, 0)", x.then(2, 0, 0), -1);
        due(37, "then(-1, 0, 0)", x.then(-1, 0, 0), -1);
        due(37, "nothing happened", x.count(2) + x.count(16), 0);
        due(38, "next(0)", x.next(0), 2);
        due(38, "next(1)", x.next(1), 1);
        due(38, "next(2)", x.next(2), -1);
        due(38, "next(-1)", x.next(-1), -1);
        x.years(1);
        due(38, "next(0) a year on", x.next(0), 1);
        due(38, "next(1) a year on", x.next(1), 2);
        String one = "wave 1 1 0 0 0 0; shifts = if year < ";
        due(38, "the fortieth year", told(one + "39 then 0 else 100;").next(0), 40);
        due(38, "the year behind it", told(one + "40 then 0 else 100;").next(0), -2);
        due(37, "then in 40 years", told(one + "39 then 0 else 100;").then(0, 40, 1), 1);
        // By left and buoys, which are gone once it has shifted.
        GuessFerry y = told("wave 1 1 0 0 0 0; shifts = buoys * 100;");
        y.buoy(0, 3, true);
        due(37, "then by buoys", y.then(0, 9, 1), 1);
        GuessFerry z = told("wave 1 1 1 1 1 1; wave 3 0 0 2 0 5; seed 42;");
        due(40, "drawn(0, 1)", z.drawn(0, 1), 1);
        due(40, "drawn(0, 11)", z.drawn(0, 11), 5);
        due(40, "drawn(0, 12)", z.drawn(0, 12), 6);
        due(40, "drawn(1, 3)", z.drawn(1, 3), 2);
        due(40, "drawn(1, 20)", z.drawn(1, 20), 3);
        due(40, "drawn(0, 0)", z.drawn(0, 0), -1);
        due(40, "drawn(0, 21)", z.drawn(0, 21), -1);
        due(40, "drawn(2, 1)", z.drawn(2, 1), -1);
        due(40, "drawn(-1, 1)", z.drawn(-1, 1), -1);
        due(39, "year(1, 1)", z.year(1, 1), 1);
        due(39, "year(0, 20)", z.year(0, 20), 0);
        due(39, "year(35, 1)", z.year(35, 1), 0);
        due(39, "year(35, 2)", z.year(35, 2), 1);
        due(39, "year(34, 20)", z.year(34, 20), 4);
        due(39, "year(36, 1)", z.year(36, 1), -1);
        due(39, "year(-1, 1)", z.year(-1, 1), -1);
        due(39, "year(0, 0)", z.year(0, 0), -1);
        due(39, "year(0, 21)", z.year(0, 21), -1);
        // Seeds go on behind 9999: things 2 5 4 1 0, then 4 0 3.
        GuessFerry last = told("wave 1 1 1 1 1 1; seed 9995;");
        due(39, "year(4, 5)", last.year(4, 5), 1);
        due(39, "year(4, 6)", last.year(4, 6), 2);
        due(40, "drawn(0, 7)", last.drawn(0, 7), 5);
        due(40, "drawn(0, 8)", last.drawn(0, 8), 6);
        // As often shifted as now: seed 42 has 1, 1, 4 over wave 0.
        GuessFerry on = told("wave 1 1 1 1 1 1; seed 42; shifts = 100;");
        on.years(2);
        due(39, "year(4, 1) two shifts on", on.year(4, 1), 1);
        due(39, "year(1, 1) two shifts on", on.year(1, 1), 0);
        due(6, "wave(0, 4) two shifts on", on.wave(0, 4), 4);
    }

    private static void tellers() {
        GuessFerry x = told(TWO);
        due(41, "tell(2, 1, true)", x.tell(2, 1, true), -1);
        due(41, "tell(-1, 1, true)", x.tell(-1, 1, true), -1);
        due(41, "tell(0, 0, true)", x.tell(0, 0, true), -1);
        due(41, "tell(0, 64, true)", x.tell(0, 64, true), -1);
        due(41, "tell(0, -1, true)", x.tell(0, -1, true), -1);
        due(41, "tell(0, 7, true)", x.tell(0, 7, true), 0);
        due(41, "tell(0, 1, false)", x.tell(0, 1, false), 1);
        due(41, "tell(1, 32, true)", x.tell(1, 32, true), 2);
        due(41, "tell(1, 8, true)", x.tell(1, 8, true), 3);
        due(43, "fit(0, 0, 0)", x.fit(0, 0, 0), 18);
        due(43, "fit(1, 0, 0)", x.fit(1, 0, 0), 9);
        due(43, "fit(2, 0, 0)", x.fit(2, 0, 0), 6);
        due(43, "fit(3, 0, 0)", x.fit(3, 0, 0), 2);
        due(43, "fit(3, 0, 1)", x.fit(3, 0, 1), 10);
        due(43, "fit(4, 0, 0)", x.fit(4, 0, 0), 0);
        due(43, "fit(4, 0, 1)", x.fit(4, 0, 1), 0);
        due(43, "fit(4, 1, 0)", x.fit(4, 1, 0), 4);
        due(43, "fit(4, 1, 1)", x.fit(4, 1, 1), 14);
        due(43, "fit(4, 2, 0)", x.fit(4, 2, 0), 2 + 8 + 4);
        due(43, "fit(4, 3, 0)", x.fit(4, 3, 0), 18);
        due(43, "fit(4, 3, 1)", x.fit(4, 3, 1), 60);
        due(43, "fit(5, 0, 0)", x.fit(5, 0, 0), -1);
        due(43, "fit(-1, 0, 0)", x.fit(-1, 0, 0), -1);
        due(43, "fit(4, -1, 0)", x.fit(4, -1, 0), -1);
        due(43, "fit(4, 4, 0)", x.fit(4, 4, 0), -1);
        due(43, "fit(4, 0, 2)", x.fit(4, 0, 2), -1);
        due(43, "fit(4, 0, -1)", x.fit(4, 0, -1), -1);
        due(44, "lie(4, 0) of none", x.lie(4, 0), 15);
        due(44, "lie(4, 1)", x.lie(4, 1), 0);
        due(44, "lie(3, 0)", x.lie(3, 0), 0);
        due(44, "lie(0, 0)", x.lie(0, 0), 0);
        due(44, "lie(5, 0)", x.lie(5, 0), -1);
        due(44, "lie(-1, 0)", x.lie(-1, 0), -1);
        due(44, "lie(4, 4)", x.lie(4, 4), -1);
        due(44, "lie(4, -1)", x.lie(4, -1), -1);
        due(45, "ask(0, 0)", x.ask(0, 0), 0);
        due(45, "ask(3, 0)", x.ask(3, 0), 0);
        due(45, "ask(4, 0) of none", x.ask(4, 0), -2);
        due(45, "ask(5, 0)", x.ask(5, 0), -1);
        due(45, "ask(-1, 0)", x.ask(-1, 0), -1);
        due(45, "ask(4, 4)", x.ask(4, 4), -1);
        due(45, "ask(4, -1)", x.ask(4, -1), -1);
        GuessFerry y = told(THREE);
        due(45, "ask the middle", y.ask(0, 0), 1);
        y.tell(0, 1, true);
        y.tell(1, 16, true);
        y.tell(1, 16, false);
        due(44, "lie(1, 1)", y.lie(1, 1), 1);
        due(44, "lie(3, 1) of none", y.lie(3, 1), 7);
        due(44, "lie(3, 2)", y.lie(3, 2), 1);
        due(45, "ask(2, 1)", y.ask(2, 1), 0);
        due(42, "forget()", y.forget(), 3);
        due(42, "count(10)", y.count(10), 0);
        due(42, "forget() of none", y.forget(), 0);
        due(41, "tell behind forget", y.tell(2, 63, false), 0);
        due(43, "none of all things", y.fit(1, 0, 0), 0);
        for (int i = 1; i < 20; i++) {
            due(41, "tell " + i, y.tell(0, 1, true), i);
        }
        due(41, "a 21st", y.tell(0, 1, true), -1);
        due(41, "count(10)", y.count(10), 20);
        due(44, "lie(20, 3)", y.lie(20, 3), (1 << 20) - 1);
        due(9, "undo() is not of tell", y.undo(), false);
        Edge.feed(y, "seed 1;");
        y.read();
        due(4, "count(10) behind read()", y.count(10), 0);
    }

    private static void slots() {
        GuessFerry x = told(TWO);
        x.go(0, 2);
        due(46, "hold(3)", x.hold(3), false);
        due(46, "hold(-1)", x.hold(-1), false);
        due(46, "hold(2)", x.hold(2), true);
        due(46, "count(11)", x.count(11), 1);
        due(46, "count(9)", x.count(9), 1);
        x.go(0, 1);
        x.years(5);
        x.buoy(1, 1, true);
        x.tell(0, 1, true);
        Edge.feed(x, "seed");
        due(46, "hold(0)", x.hold(0), true);
        due(46, "count(11)", x.count(11), 2);
        due(47, "restore(1)", x.restore(1), false);
        due(47, "restore(3)", x.restore(3), false);
        due(47, "restore(-1)", x.restore(-1), false);
        due(47, "count(9)", x.count(9), 4);
        due(47, "restore(2)", x.restore(2), true);
        due(47, "count(9)", x.count(9), 0);
        due(47, "undo()", x.undo(), false);
        due(47, "count(2)", x.count(2), 0);
        due(47, "count(3)", x.count(3), 2);
        due(47, "count(7)", x.count(7), 1);
        due(47, "count(16)", x.count(16), 0);
        due(47, "wave(0, 2)", x.wave(0, 2), 4);
        due(47, "party(0, 2)", x.party(0, 2), 0);
        due(47, "count(10)", x.count(10), 1);
        due(47, "count(8)", x.count(8), 4);
        x.years(1);
        due(47, "restore(2) again", x.restore(2), true);
        due(47, "count(2)", x.count(2), 0);
        due(47, "restore(0)", x.restore(0), true);
        due(47, "count(2)", x.count(2), 5);
        due(47, "wave(1, 2)", x.wave(1, 2), 2);
        due(47, "party(0, 2)", x.party(0, 2), 2);
        x.back(4);
        x.read();
        due(4, "count(11) behind read()", x.count(11), 0);
        due(4, "restore(0) behind read()", x.restore(0), false);
    }

    private static void counts() {
        GuessFerry x = told(TWO);
        due(48, "count(0)", x.count(0), 2);
        due(48, "count(1)", x.count(1), 3);
        due(48, "count(4)", x.count(4), 7);
        due(48, "count(14)", x.count(14), 36);
        due(48, "count(15)", x.count(15), 1);
        due(48, "count(18)", x.count(18), 2 + 6 + 12);
        x.go(0, 1);
        x.go(1, 0);
        x.go(2, 0);
        x.fetch(2);
        x.years(5);
        x.buoy(1, 5, true);
        x.buoy(1, 3, true);
        x.buoy(1, 0, true);
        x.buoy(0, 3, true);
        due(48, "count(2)", x.count(2), 5);
        due(48, "count(3)", x.count(3), 20);
        due(48, "count(4)", x.count(4), 4);
        due(48, "count(5)", x.count(5), 2);
        due(48, "count(6)", x.count(6), 1);
        due(48, "count(7)", x.count(7), 3);
        due(48, "count(8)", x.count(8), 0);
        due(48, "count(9)", x.count(9), 9);
        due(48, "count(12)", x.count(12), 4);
        due(48, "count(13)", x.count(13), 0);
        due(48, "count(15)", x.count(15), 34);
        due(48, "count(16)", x.count(16), 5);
        due(48, "count(17)", x.count(17), 2);
        due(48, "count(18)", x.count(18), 13);
        due(48, "count(19)", x.count(19), -1);
        due(48, "count(-1)", x.count(-1), -1);
        for (int thing = 0; thing < 6; thing++) {
            x.buoy(0, thing, true);
        }
        due(48, "count(17)", x.count(17), 3);
        due(48, "count(12)", x.count(12), 9);
        GuessFerry y = told(TWO);
        y.go(0, 31);
        due(48, "count(13)", y.count(13), 1);
        y.go(0, 1);
        due(48, "count(13)", y.count(13), 3);
    }

    private static void mostWaves() {
        GuessFerry x = told("wave 9 9 9 9 9 9;".repeat(5) + "party p 9 0;");
        due(48, "count(14)", x.count(14), 7776);
        due(15, "cases()", x.cases(), 7776);
        due(17, "all()", x.all(), 459165024);
        due(16, "chance(7775)", x.chance(7775), 59049);
        due(26, "share(4, 5)", x.share(4, 5), 76527504);
        due(24, "rank(7775)", x.rank(7775), 7775);
        due(25, "ranked(19)", x.ranked(19), 19);
        due(21, "enough()", x.enough(), 26);
        due(22, "left(0)", x.left(0), 6480);
        due(23, "wisest(0)", x.wisest(0), 0);
        due(27, "sure(0, 1)", x.sure(0, 1), 59049);
        // Of k goes but the last, each lets down at one wave, never ahead of the one before.
        due(27, "sure(0, 3)", x.sure(0, 3), 59049 * (1 + 5 + 15));
        due(43, "fit(0, 0, 1)", x.fit(0, 0, 1), 459165024);
        due(45, "ask(0, 0)", x.ask(0, 0), 0);
        GuessFerry y = told("wave 0 0 1 0 0 0;wave 0 0 0 3 0 0;wave 0 0 4 0 0 6;wave 1 0 9 0 0 0;wave 0 0 0 0 0 7;");
        due(15, "cases()", y.cases(), 4);
        due(18, "likeliest()", y.likeliest(), 2 + 6 * 3 + 36 * 5 + 216 * 2 + 1296 * 5);
        due(25, "ranked(1)", y.ranked(1), 2 + 6 * 3 + 36 * 2 + 216 * 2 + 1296 * 5);
        due(25, "ranked(3)", y.ranked(3), 2 + 6 * 3 + 36 * 2 + 1296 * 5);
        due(24, "rank of the third", y.rank(2 + 6 * 3 + 36 * 5 + 1296 * 5), 2);
        due(23, "wisest(0)", y.wisest(0), 2 + 6 * 3 + 36 * 2);
        due(23, "wisest(1)", y.wisest(1), 2);
        due(28, "alike", y.alike(6480, 6480 + 216), 3);
    }

    private static void noWaves() {
        GuessFerry x = told("party p 5 1; party q 5 0; dares = nerve; fares = heavy;");
        due(15, "cases()", x.cases(), 1);
        due(17, "all()", x.all(), 1);
        due(16, "chance(0)", x.chance(0), 1);
        due(18, "likeliest()", x.likeliest(), 0);
        due(19, "bears(0, 0)", x.bears(0, 0), 0);
        due(20, "safest(1)", x.safest(1), 0);
        due(29, "sunk(0)", x.sunk(0), 0);
        due(30, "stuck()", x.stuck(), 0);
        due(33, "chosen()", x.chosen(), 0);
        due(34, "allGo(0)", x.allGo(0), 1);
        due(34, "allGo(2)", x.allGo(2), 5);
        due(39, "year(0, 20)", x.year(0, 20), 20);
        due(45, "ask(0, 0)", x.ask(0, 0), -2);
    }

    /** No arguments, however wild, make a call throw. */
    private static void wildCalls() {
        int[] wild = {MIN, MIN + 1, -7777, -64, -2, -1, 0, 1, 2, 5, 6, 31, 40, 41, 63, 64, 7775, 7776, 46656, MAX};
        Random random = new Random(5);
        String[] texts = {"", TWO, THREE, MOST};
        for (int run = 0; run < 400; run++) {
            GuessFerry x = told(texts[run % texts.length]);
            for (int i = 0; i < 500; i++) {
                wildCall(x, random.nextInt(48), wild[random.nextInt(wild.length)], wild[random.nextInt(wild.length)],
                    wild[random.nextInt(wild.length)]);
            }
        }
    }

    private static void wildCall(GuessFerry x, int op, int a, int b, int c) {
        switch (op) {
            case 0: x.feed(a, b, c, a, b); break;
            case 1: x.back(a); break;
            case 2: if (a == 0) { x.read(); } break;
            case 3: x.wave(a, b); break;
            case 4: x.odds(a, b); break;
            case 5: x.party(a, b); break;
            case 6: x.needs(a, b, c); break;
            case 7: x.go(a, b); break;
            case 8: x.buoy(a, b, c > 0); break;
            case 9: x.fetch(a); break;
            case 10: x.years(a); break;
            case 11: x.undo(); break;
            case 12: x.chance(a); break;
            case 13: x.bears(a, b); break;
            case 14: x.safest(a); break;
            case 15: x.left(a); break;
            case 16: x.wisest(a); break;
            case 17: x.rank(a); break;
            case 18: x.ranked(a); break;
            case 19: x.share(a, b); break;
            case 20: x.sure(a, b); break;
            case 21: x.alike(a, b); break;
            case 22: x.sunk(a); break;
            case 23: x.spread(a); break;
            case 24: x.dearest(a); break;
            case 25: x.allGo(a); break;
            case 26: x.then(a, b, c); break;
            case 27: x.next(a); break;
            case 28: x.year(a, b); break;
            case 29: x.drawn(a, b); break;
            case 30: x.tell(a, b, c > 0); break;
            case 31: x.fit(a, b, c); break;
            case 32: x.lie(a, b); break;
            case 33: x.ask(a, b); break;
            case 34: x.hold(a); break;
            case 35: x.restore(a); break;
            case 36: x.count(a); break;
            default: x.likeliest(); x.enough(); x.stuck(); x.chosen(); x.darers(); x.open(); x.cases(); break;
        }
    }
}
