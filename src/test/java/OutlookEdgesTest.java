/** The edges of what would be and of what is told: parts III and IV, each sentence by a test of its own. */
public final class OutlookEdgesTest {
    /** Over wave 0 one of two alike things, over wave 1 one of three, two of them alike. */
    private static final String ALIKE = "wave 0 4 0 4 0 0; wave 3 0 5 0 5 0; party p 0 0;";

    public static void main(String[] args) {
        nothingHappens();
        cases();
        oddsOfGuesses();
        likeliest();
        bears();
        safest();
        enough();
        left();
        wisest();
        ranks();
        shares();
        sure();
        alike();
        sunk();
        dearestAndChosen();
        allGo();
        darersAndOpen();
        inYears();
        bySeeds();
        told();
        fit();
        lie();
        ask();
        Edge.end("OutlookEdgesTest");
    }

    /** All buoys over a wave: nothing may be there. */
    private static GuessFerry withNothing(String text, int wave) {
        GuessFerry x = Edge.told(text);
        for (int thing = 0; thing < 6; thing++) {
            x.buoy(wave, thing, true);
        }
        return x;
    }

    private static void nothingHappens() {
        Edge.says("What would be (nothing happens).");
        GuessFerry x = Edge.told("wave 2 1 1 0 0 0; wave 1 3 0 0 0 1; party a 0 1; party b 1 1; party c 9 1; shifts=50;"
            + "fares=3+goes;seed 8;");
        x.go(2, 0);
        x.buoy(1, 5, true);
        x.tell(0, 3, true);
        x.tell(1, 1, false);
        String ahead = Edge.state(x);
        x.cases();
        x.chance(3);
        x.all();
        x.likeliest();
        x.bears(0, 7);
        x.safest(1);
        x.enough();
        x.left(3);
        x.wisest(0);
        x.rank(0);
        x.ranked(2);
        x.share(0, 1);
        x.sure(0, 8);
        x.sure(1, 3);
        x.alike(0, 1);
        x.sunk(3);
        x.stuck();
        x.spread(0);
        x.dearest(0);
        x.chosen();
        x.allGo(0);
        x.allGo(2);
        x.darers();
        x.open();
        x.then(0, 40, 2);
        x.next(0);
        x.year(0, 20);
        x.drawn(0, 20);
        x.fit(2, 1, 1);
        x.lie(2, 1);
        x.ask(2, 1);
        Edge.due("all that is looked at", Edge.state(x), ahead);
    }

    private static void cases() {
        Edge.says("CASES: rows of THINGS, one for each WAVE, that MAY be there: how many.");
        Edge.due("one thing each", Edge.told("wave 0 4 0 0 0 0; wave 0 0 0 0 0 1;").cases(), 1);
        Edge.due("two by three", Edge.told(ALIKE).cases(), 6);
        Edge.due("all", Edge.told("wave 1 1 1 1 1 1;".repeat(5)).cases(), 7776);
        Edge.due("nothing over the last", withNothing(ALIKE, 1).cases(), 0);
        Edge.due("nothing over the first", withNothing(ALIKE, 0).cases(), 0);
    }

    private static void oddsOfGuesses() {
        Edge.says("ODDS of a GUESS: those of its THINGS, multiplied; 0 if one of them may not be there");
        GuessFerry x = Edge.told(ALIKE);
        Edge.due("chance of a case", x.chance(Edge.guess(3, 2)), 20);
        Edge.due("odds of 0 over the first", x.chance(Edge.guess(0, 2)), 0);
        Edge.due("odds of 0 over the last", x.chance(Edge.guess(3, 1)), 0);
        x.buoy(1, 2, true);
        Edge.due("with its buoy", x.chance(Edge.guess(3, 2)), 0);
        Edge.due("the most", Edge.told("wave 9 9 9 9 9 9;".repeat(5)).chance(7775), 59049);
        Edge.says("ALL: ODDS of all CASES, added.");
        Edge.due("all with a buoy", x.all(), 8 * 8);
        Edge.due("all of none", withNothing(ALIKE, 1).all(), 0);
        Edge.due("all of the most", Edge.told("wave 9 9 9 9 9 9;".repeat(5)).all(), 459165024);
    }

    private static void likeliest() {
        Edge.says("LIKELIEST: the GUESS among the CASES with greatest ODDS, of alike ones the least number.");
        GuessFerry x = Edge.told(ALIKE);
        Edge.due("of alike ones", x.likeliest(), Edge.guess(1, 2));
        x.buoy(1, 2, true);
        Edge.due("with a buoy", x.likeliest(), Edge.guess(1, 4));
        x.buoy(1, 4, true);
        Edge.due("with two", x.likeliest(), Edge.guess(1, 0));
        x.buoy(1, 0, true);
        Edge.due("with all", x.likeliest(), -2);
        Edge.due("all alike", Edge.told("wave 9 9 9 9 9 9;".repeat(5)).likeliest(), 0);
        Edge.due("the last alone", Edge.told("wave 0 0 0 0 0 1;".repeat(5)).likeliest(), 7775);
    }

    private static void bears() {
        Edge.says("BEARS of a PARTY and a GUESS: over how many WAVES from 0 on ODDS are as great as NEEDS.");
        GuessFerry x = Edge.told("wave 4 5 6 0 0 0; wave 5 4 0 0 0 0; wave 9 5 0 0 0 0; party p 5 0; party q 0 0;");
        Edge.due("as great", x.bears(0, Edge.guess(1, 0, 1)), 3);
        Edge.due("one less over the first", x.bears(0, Edge.guess(0, 0, 0)), 0);
        Edge.due("one less in the middle", x.bears(0, Edge.guess(2, 1, 0)), 1);
        Edge.due("none over the last", x.bears(0, Edge.guess(2, 0, 5)), 2);
        Edge.due("needs of 0 by odds of 0", x.bears(1, Edge.guess(5, 5, 5)), 3);
        // What a buoy tells is not there bears all the same.
        x.buoy(0, 1, true);
        Edge.due("by a thing with a buoy", x.bears(0, Edge.guess(1, 0, 1)), 3);
        x.go(0, 0);
        Edge.due("of a party that is lost", x.bears(0, Edge.guess(1, 0, 1)), 3);
    }

    private static void safest() {
        Edge.says("SAFEST of a PARTY: the GUESS among the CASES which BEARS it over all WAVES with greatest ODDS, of"
            + " alike ones the least number.");
        GuessFerry x = Edge.told(ALIKE + "party q 5 0; party r 4 0; party s 3 0;");
        Edge.due("of alike ones", x.safest(0), Edge.guess(1, 2));
        Edge.due("not over the first", x.safest(1), -2);
        Edge.due("just over the first", x.safest(2), Edge.guess(1, 2));
        x.buoy(1, 2, true);
        x.buoy(1, 4, true);
        Edge.due("not over the last", x.safest(2), -2);
        Edge.due("just over the last", x.safest(3), Edge.guess(1, 0));
        x.buoy(1, 0, true);
        Edge.due("no cases", x.safest(0), -2);
        // By a law that bears the lesser odds alone.
        GuessFerry y = Edge.told("wave 2 9 3 3 0 0; party p 0 0; needs=if 3<odds then 9 else 0; party q 0 0;");
        Edge.due("odds of 9 are as great as 9", y.safest(0), 1);
        GuessFerry z = Edge.told("wave 2 8 3 3 0 0; party p 0 0; needs=if 3<odds then 9 else 0;");
        Edge.due("odds of 8 are not", z.safest(0), 2);
    }

    private static void enough() {
        Edge.says("ENOUGH: how many times one must go at most, by CASES alone and never SINKING, till one is OVER.");
        Edge.due("one case", Edge.told("wave 0 4 0 0 0 0; wave 0 0 0 0 0 1;").enough(), 1);
        Edge.due("two by three", Edge.told(ALIKE).enough(), 4);
        Edge.due("all", Edge.told("wave 1 1 1 1 1 1;".repeat(5)).enough(), 26);
        // Whom nothing bears is no matter.
        Edge.due("none is borne", Edge.told("wave 1 1 0 0 0 0;party p 9 9;").enough(), 2);
        GuessFerry x = Edge.told(ALIKE);
        x.go(0, Edge.guess(x.wave(0, 4), 5));
        Edge.due("the first is found", x.enough(), 3);
    }

    private static void left() {
        Edge.says("LEFT of a GUESS: how many CASES there are at most behind going by it, not SINKING, whatever of all"
            + " that can be comes of it (some CASE being true).");
        GuessFerry x = Edge.told(ALIKE);
        Edge.due("by a case: the first lets down", x.left(Edge.guess(1, 0)), 3);
        Edge.due("by what may not be over the first", x.left(Edge.guess(0, 0)), 6);
        Edge.due("by what may not be over the last", x.left(Edge.guess(1, 1)), 3);
        GuessFerry one = Edge.told("wave 0 4 0 0 0 0; wave 0 0 0 0 0 1;");
        Edge.due("one case, by it", one.left(Edge.guess(1, 5)), 1);
        Edge.due("one case, not by it", one.left(Edge.guess(0, 0)), 1);
        GuessFerry y = Edge.told("wave 0 4 0 0 0 0; wave 1 1 0 0 0 0;");
        Edge.due("the one of two", y.left(Edge.guess(1, 0)), 1);
        Edge.due("neither of two", y.left(Edge.guess(1, 2)), 2);
        Edge.due("not by the first, that is sure", y.left(Edge.guess(0, 0)), 2);
        // Nobody is borne: it is not looked at.
        Edge.due("not sinking", Edge.told("wave 1 1 1 0 0 0;party p 9 9;").left(0), 2);
        Edge.due("the most", Edge.told("wave 1 1 1 1 1 1;".repeat(5)).left(7775), 6480);
    }

    private static void wisest() {
        Edge.says("WISEST: the GUESS (any) of least LEFT, of alike ones the least number.");
        Edge.due("one case: any", Edge.told("wave 0 4 0 0 0 0; wave 0 0 0 0 0 1;").wisest(0), 0);
        Edge.due("one case of five waves: any", Edge.told("wave 0 0 0 0 0 1;".repeat(5)).wisest(0), 0);
        GuessFerry x = Edge.told("wave 0 0 4 0 0 0; wave 0 1 1 0 0 0; wave 0 0 0 1 1 1;");
        Edge.due("no case itself", x.wisest(0), Edge.guess(2, 1, 0));
        Edge.due("how many", x.wisest(1), 3);
        Edge.due("it is no case", x.chance(x.wisest(0)), 0);
        for (int guess = 0; guess < 216; guess++) {
            int left = x.left(guess);
            Edge.due("left(" + guess + ") is less", left < 3, false);
            Edge.due("left(" + guess + ") is as little ahead", left == 3 && guess < Edge.guess(2, 1, 0), false);
        }
    }

    private static void ranks() {
        Edge.says("RANK of a GUESS among the CASES: how many CASES come ahead of it: those with greater ODDS, and of as"
            + " great ones those of lesser numbers; the i-th of them so.");
        GuessFerry x = Edge.told(ALIKE);
        int[] order = {Edge.guess(1, 2), Edge.guess(3, 2), Edge.guess(1, 4), Edge.guess(3, 4), Edge.guess(1, 0),
            Edge.guess(3, 0)};
        for (int i = 0; i < order.length; i++) {
            Edge.due("rank(" + order[i] + ")", x.rank(order[i]), i);
            Edge.due("ranked(" + i + ")", x.ranked(i), order[i]);
        }
        Edge.due("ranked(6)", x.ranked(6), -1);
        GuessFerry y = Edge.told("wave 1 2 3 4 5 6;".repeat(5));
        Edge.due("the last of all", y.rank(0), 7775);
        Edge.due("the first of all", y.rank(7775), 0);
        Edge.due("ranked(0)", y.ranked(0), 7775);
        Edge.due("ranked(1)", y.ranked(1), 7775 - 1296);
        Edge.due("ranked(5)", y.ranked(5), 7774);
        GuessFerry z = Edge.told("wave 3 0 5 0 5 1; wave 2 7 0 1 0 4; wave 9 0 0 8 0 0; wave 0 1 0 0 2 0;");
        for (int i = 0; i < 20; i++) {
            Edge.due("rank of ranked(" + i + ")", z.rank(z.ranked(i)), i);
        }
    }

    private static void shares() {
        Edge.says("SHARE of a WAVE and a THING: ODDS of all CASES with it there, added.");
        GuessFerry x = Edge.told(ALIKE);
        Edge.due("share(0, 1)", x.share(0, 1), 4 * 13);
        Edge.due("of odds of 0", x.share(0, 0), 0);
        x.buoy(0, 3, true);
        Edge.due("of a buoy's thing", x.share(0, 3), 0);
        Edge.due("of the one left", x.share(0, 1), 4 * 13);
        Edge.due("with nothing elsewhere", withNothing(ALIKE, 1).share(0, 1), 0);
        Edge.due("of the most", Edge.told("wave 9 9 9 9 9 9;".repeat(5)).share(4, 5), 76527504);
    }

    private static void sure() {
        Edge.says("SURE of a PARTY HERE in n GOES (1 .. 8): ODDS, added, of all CASES which being true it would be OVER"
            + " behind n GOES at most, each by its SAFEST as it is then (none, or LOST: it is not).");
        // Nine goes at most: behind eight, one case of 24 is not over.
        GuessFerry x = Edge.told("wave 1 1 1 1 1 1; wave 1 1 1 1 0 0; party p 0 0; party q 2 0;");
        Edge.due("sure(0, 1)", x.sure(0, 1), 1);
        Edge.due("sure(0, 2)", x.sure(0, 2), 3);
        Edge.due("sure(0, 7)", x.sure(0, 7), 21);
        Edge.due("sure(0, 8)", x.sure(0, 8), 23);
        Edge.due("by no safest", x.sure(1, 8), 0);
        Edge.due("with nothing", withNothing(ALIKE, 1).sure(0, 8), 0);
        // As it is then: behind the first go nothing bears it.
        Edge.due("by goes", Edge.told(ALIKE + "needs=goes*9;").sure(0, 8), 20);
        Edge.due("by buoys", Edge.told(ALIKE + "needs=buoys*9;").sure(0, 8), 20);
        Edge.due("the most", Edge.told("wave 9 9 9 9 9 9;".repeat(5) + "party p 9 9;").sure(0, 1), 59049);
        GuessFerry found = Edge.told(ALIKE);
        int there = found.wave(0, 4);
        found.go(0, Edge.guess(there, 1));
        Edge.due("the first is found", found.sure(0, 1), 20);
        Edge.due("the first is found", found.sure(0, 2), 40);
        Edge.due("the first is found", found.sure(0, 3), 52);
        sureOfMany();
    }

    private static void sureOfMany() {
        // Of each go but the last, one wave lets down, never one ahead of the last one that did.
        GuessFerry x = Edge.told("wave 9 9 9 9 9 9;".repeat(5) + "party p 9 9;");
        Edge.due("sure(0, 2) of five", x.sure(0, 2), 59049 * (1 + 5));
        Edge.due("sure(0, 3) of five", x.sure(0, 3), 59049 * (1 + 5 + 15));
        Edge.due("sure(0, 4) of five", x.sure(0, 4), 59049 * (1 + 5 + 15 + 35));
        GuessFerry y = Edge.told("wave 2 2 0 0 0 0; wave 3 3 3 0 0 0; wave 1 1 1 1 0 0; party p 0 0;");
        y.go(0, Edge.guess(y.wave(0, 4), 5, 5));
        Edge.due("sure(0, 2), the first found", y.sure(0, 2), 6 * 3);
        Edge.due("sure(0, 4), the first found", y.sure(0, 4), 6 * 9);
        Edge.due("sure(0, 6), the first found", y.sure(0, 6), 6 * 12);
        // By 0 and 1, by 1 and 1 if let down at the first wave, by 0 and 0 if at the second.
        GuessFerry z = Edge.told("wave 5 1 0 0 0 0; wave 2 3 0 0 0 0; party p 0 0;");
        Edge.due("sure(0, 2) of unlike odds", z.sure(0, 2), 15 + 3 + 10);
        Edge.due("sure(0, 3) of unlike odds", z.sure(0, 3), 30);
        // Within three goes, whichever waves they let down at, and none behind these.
        String two = "wave 6 6 6 0 0 0; wave 6 6 6 0 0 0; party p 0 0; needs=";
        Edge.due("needs by goes", Edge.told(two + "goes*3;").sure(0, 8), 36 * 6);
        Edge.due("needs by buoys", Edge.told(two + "buoys*9;").sure(0, 8), 36);
    }

    private static void alike() {
        Edge.says("ALIKE of two GUESSES: over how many WAVES from 0 on they are alike.");
        GuessFerry x = Edge.told("wave 1 0 0 0 0 0;".repeat(5));
        Edge.due("itself", x.alike(7775, 7775), 5);
        Edge.due("unlike at the first alone", x.alike(7775, 7774), 0);
        Edge.due("unlike at the last alone", x.alike(7775, 7775 - 1296), 4);
        Edge.due("unlike in the middle", x.alike(0, 36 * 2), 2);
        Edge.due("no waves", new GuessFerry().alike(0, 0), 0);
    }

    private static void sunk() {
        Edge.says("SUNK by a GUESS: PARTIES HERE that it does not BEAR over all WAVES.");
        GuessFerry x = Edge.told("wave 9 0 0 0 0 0; wave 5 4 0 0 0 0; party a 4 0; party b 5 0; party c 6 0;"
            + "party d 0 0; party e 9 0; party f 5 0;");
        Edge.due("as great bears", x.sunk(Edge.guess(0, 0)), 4 + 16);
        Edge.due("one less sinks", x.sunk(Edge.guess(0, 1)), 2 + 4 + 16 + 32);
        Edge.due("odds of 0", x.sunk(Edge.guess(5, 5)), 63 - 8);
        x.go(2, 0);
        Edge.due("not one that is lost", x.sunk(Edge.guess(0, 0)), 16);
        x.go(1, x.count(15));
        x.fetch(2);
        Edge.due("here again", x.sunk(Edge.guess(0, 0)), 4 + 16);
    }

    private static void dearestAndChosen() {
        Edge.says("DEAREST: the PARTY of greatest FARES, of alike ones the first.");
        GuessFerry x = Edge.told("wave 9 0 0 0 0 0; party a 1 0; party b 3 0; party c 3 0; fares=heavy*goes+heavy;");
        Edge.due("of alike ones", x.dearest(0), 1);
        Edge.due("how much", x.dearest(1), 3);
        x.go(1, 0);
        Edge.due("though it is over", x.dearest(0), 1);
        Edge.due("all of 0", Edge.told("party a 1 0; party b 3 0; fares=0;").dearest(0), 0);
        Edge.due("all of 0, how much", Edge.told("party a 1 0; party b 3 0; fares=0;").dearest(1), 0);
        Edge.says("CHOSEN: the PARTY HERE whose SAFEST has greatest ODDS, of alike ones the first.");
        GuessFerry y = Edge.told("wave 2 8 0 0 0 0; party a 0 0; party b 0 0; party c 0 0; party d 9 0;"
            + "needs=if which<1 then 9-odds else heavy;");
        Edge.due("of alike ones", y.chosen(), 0);
        GuessFerry z = Edge.told("wave 2 8 0 0 0 0; party a 0 0; party b 0 0; party c 0 0;"
            + "needs=if which<1 then odds+1 else 0;");
        Edge.due("the first is stuck", z.chosen(), 1);
        z.go(1, z.count(15));
        Edge.due("the second is over", z.chosen(), 2);
        GuessFerry less = Edge.told("wave 2 8 0 0 0 0; party a 0 0; party b 0 0; needs=if 2<odds-which*9 then 9 else 0;");
        Edge.due("safest of the first", less.safest(0), 0);
        Edge.due("safest of the second", less.safest(1), 1);
        Edge.due("the greater odds", less.chosen(), 1);
    }

    private static void allGo() {
        Edge.says("ALL GO: all PARTIES that are HERE and DARE, by number, each by its SAFEST as it is then (none: it"
            + " stays): how many are OVER, are LOST then, what is paid.");
        // Party b dares not, party c is stuck, party d is over, party e is lost.
        GuessFerry x = Edge.told("wave 0 3 0 0 0 0; party a 0 1; party b 0 0; party c 4 1; party d 0 1; party e 9 1;"
            + "party f 3 1; dares=nerve; fares=10+which;");
        x.go(3, 1);
        x.go(4, 1);
        Edge.due("over", x.allGo(0), 3);
        Edge.due("lost", x.allGo(1), 1);
        Edge.due("paid", x.allGo(2), 10 + 15);
        // Each finds out something for those behind it.
        GuessFerry y = Edge.told("wave 1 1 1 1 1 1; party a 0 0; party b 0 0; party c 0 0; party d 0 0; party e 0 0;"
            + "party f 0 0; fares=1+left;");
        int there = y.wave(0, 4);
        Edge.due("over behind those let down", y.allGo(0), 6 - there);
        Edge.due("paid by all", y.allGo(2), 6);
        Edge.due("with nothing that may be", withNothing("wave 1 1 0 0 0 0; party a 0 0;", 0).allGo(2), 0);
        Edge.due("no parties", Edge.told("wave 1 0 0 0 0 0;").allGo(0), 0);
    }

    private static void darersAndOpen() {
        Edge.says("DARERS: PARTIES HERE that DARE now.");
        GuessFerry x = Edge.told("wave 1 0 0 0 0 0; party a 0 0; party b 0 1; party c 0 2; dares=nerve-year;");
        Edge.due("more than 0", x.darers(), 6);
        x.years(1);
        Edge.due("a year on", x.darers(), 4);
        x.go(2, 0);
        Edge.due("not one that is over", x.darers(), 0);
        Edge.says("OPEN: WAVES over which more than one THING MAY be.");
        GuessFerry y = Edge.told("wave 1 1 0 0 0 0; wave 1 0 0 0 0 0; wave 1 1 1 1 1 1; party p 0 0;");
        Edge.due("one is not open", y.open(), 5);
        y.buoy(0, 0, true);
        Edge.due("one left", y.open(), 4);
        y.buoy(0, 1, true);
        Edge.due("none left", y.open(), 4);
        y.buoy(0, 1, false);
        y.buoy(0, 0, false);
        y.go(0, y.wave(0, 4) + 6);
        Edge.due("found", y.open(), 4);
        Edge.due("five waves", Edge.told("wave 1 1 0 0 0 0;".repeat(5)).open(), 31);
    }

    private static void inYears() {
        Edge.says("IN n YEARS (0 .. 40): which THINGS MAY be over a WAVE; how often it shifted.");
        GuessFerry x = Edge.told("wave 1 1 1 0 0 0; wave 1 1 0 0 0 0; shifts=if year<39 then 0 else 100-at*100;");
        x.buoy(0, 1, true);
        Edge.due("in 0 years", x.then(0, 0, 0), 5);
        Edge.due("in 39 years", x.then(0, 39, 0), 5);
        Edge.due("in 40 years", x.then(0, 40, 0), 7);
        Edge.due("shifted in 39 years", x.then(0, 39, 1), 0);
        Edge.due("shifted in 40 years", x.then(0, 40, 1), 1);
        Edge.due("in 41 years", x.then(0, 41, 1), -1);
        Edge.due("there in 40 years", x.then(0, 40, 2), Edge.lot(3, 0, 8));
        Edge.says("NEXT of a WAVE: behind how many YEARS (1 .. 40) it shifts.");
        Edge.due("the 40th", x.next(0), 40);
        Edge.due("not at all", x.next(1), -2);
        Edge.due("the 41st", Edge.told("wave 1 0 0 0 0 0; shifts=if year<40 then 0 else 100;").next(0), -2);
        Edge.due("the first", Edge.told("wave 1 0 0 0 0 0; shifts=100;").next(0), 1);
        x.years(40);
        Edge.due("from year 40 on", x.next(0), 1);
        Edge.due("from year 40 on in 40 years", x.then(0, 40, 1), 41);
    }

    private static void bySeeds() {
        Edge.says("YEAR by s SEEDS (1 .. 20) from the text's SEED on (WAVES shifted as often as now): in how many of"
            + " them a GUESS is what is THERE.");
        GuessFerry x = Edge.told("wave 1 1 1 1 1 1; seed 9990; shifts=100;");
        for (int shifted = 0; shifted < 2; shifted++) {
            for (int s = 1; s <= 20; s++) {
                int hits = 0;
                for (int i = 0; i < s; i++) {
                    hits += Edge.lot(6, 9990 + i, 8 * shifted) == 3 ? 1 : 0;
                }
                Edge.due("year(3, " + s + ") shifted " + shifted, x.year(3, s), hits);
            }
            x.years(1);
        }
        Edge.says("DRAWN of a WAVE by s SEEDS (likewise): of how many unlike THINGS it is.");
        GuessFerry y = Edge.told("wave 1 0 0 0 0 0; wave 1 1 1 1 1 1; seed 9990; shifts=100;");
        for (int shifted = 0; shifted < 2; shifted++) {
            int bits = 0;
            for (int s = 1; s <= 20; s++) {
                bits |= 1 << Edge.lot(6, 9990 + s - 1, 8 * shifted + 1);
                Edge.due("drawn(1, " + s + ") shifted " + shifted, y.drawn(1, s), Integer.bitCount(bits));
            }
            Edge.due("of one thing", y.drawn(0, 20), 1);
            y.years(1);
        }
    }

    private static void told() {
        Edge.says("TOLD: that one of a set of THINGS (1 .. 63, bits) is over a WAVE, or none of it is; 20 at most,"
            + " numbered from 0 on; KNOWN by k: the first k.");
        GuessFerry x = Edge.told("wave 1 1 1 1 1 1; wave 1 1 0 0 0 0;");
        for (int i = 0; i < 20; i++) {
            Edge.due("tell " + i, x.tell(i % 2, i == 0 ? 63 : 1, true), i);
        }
        Edge.due("a 21st", x.tell(0, 1, true), -1);
        Edge.due("known by 0", x.fit(0, 0, 0), 12);
        Edge.due("known by 1", x.fit(1, 0, 0), 12);
        Edge.due("known by 2", x.fit(2, 0, 0), 6);
        Edge.due("known by 3", x.fit(3, 0, 0), 1);
        Edge.due("known by 20", x.fit(20, 0, 0), 1);
        GuessFerry y = Edge.told("wave 1 1 1 1 1 1; wave 1 1 0 0 0 0;");
        y.tell(0, 1, false);
        y.tell(0, 32, false);
        Edge.due("none of the first thing", y.fit(1, 0, 0), 10);
        Edge.due("nor of the last", y.fit(2, 0, 0), 8);
        y.tell(0, 63, false);
        Edge.due("none of all", y.fit(3, 0, 0), 0);
        Edge.due("none of all, a lie", y.fit(3, 1, 0), 8);
    }

    private static void fit() {
        Edge.says("FIT by l: CASES of which all that is KNOWN is so, but for l (0 .. 3) of it at most: how many; their"
            + " ODDS, added.");
        GuessFerry x = Edge.told("wave 1 2 3 4 5 6;");
        for (int i = 0; i < 5; i++) {
            x.tell(0, 1 << i, true);
        }
        // Thing 5 belies all five, the others four.
        Edge.due("fit(5, 3, 0)", x.fit(5, 3, 0), 0);
        Edge.due("fit(4, 3, 0)", x.fit(4, 3, 0), 4);
        Edge.due("fit(4, 3, 1)", x.fit(4, 3, 1), 1 + 2 + 3 + 4);
        Edge.due("fit(4, 2, 0)", x.fit(4, 2, 0), 0);
        Edge.due("fit(3, 3, 0)", x.fit(3, 3, 0), 6);
        Edge.due("fit(3, 2, 1)", x.fit(3, 2, 1), 1 + 2 + 3);
        x.buoy(0, 0, true);
        Edge.due("what may not be fits not", x.fit(3, 2, 1), 2 + 3);
        // Lies of several waves are added.
        GuessFerry y = Edge.told("wave 1 1 0 0 0 0;".repeat(5));
        for (int wave = 0; wave < 5; wave++) {
            y.tell(wave, 1, true);
        }
        int[] want = {1, 1 + 5, 1 + 5 + 10, 1 + 5 + 10 + 10};
        for (int l = 0; l <= 3; l++) {
            Edge.due("fit(5, " + l + ", 0)", y.fit(5, l, 0), want[l]);
        }
        Edge.due("no waves", new GuessFerry().fit(0, 3, 1), 1);
        Edge.due("nothing may be", withNothing("wave 1 1 0 0 0 0;", 0).fit(0, 3, 0), 0);
    }

    private static void lie() {
        Edge.says("LIE: what is KNOWN that is so in none of the FIT by l, as a set (bits).");
        GuessFerry x = Edge.told("wave 0 1 1 0 0 0; wave 1 0 0 0 0 0;");
        x.tell(0, 2, true);
        x.tell(0, 4, true);
        x.tell(1, 62, true);
        x.tell(1, 62, false);
        Edge.due("each is so in some", x.lie(2, 1), 0);
        Edge.due("never so", x.lie(3, 2), 4);
        Edge.due("so in all", x.lie(4, 2), 4);
        Edge.due("of what is known alone", x.lie(1, 0), 0);
        Edge.due("the last of 20", lastLie(), 1 << 19);
        GuessFerry five = Edge.told("wave 9 9 9 9 9 9;".repeat(5));
        five.tell(4, 63, false);
        five.tell(4, 63, true);
        Edge.due("of the fifth wave", five.lie(2, 1), 1);
    }

    private static int lastLie() {
        GuessFerry x = Edge.told("wave 1 0 0 0 0 0;");
        for (int i = 0; i < 19; i++) {
            x.tell(0, 1, true);
        }
        x.tell(0, 1, false);
        return x.lie(20, 1);
    }

    private static void ask() {
        Edge.says("ASK by l: the WAVE of which, once its THING is told, fewest of the FIT by l are left, at worst; of"
            + " alike ones the first.");
        Edge.due("of alike ones", Edge.told("wave 1 1 0 0 0 0;".repeat(3)).ask(0, 0), 0);
        Edge.due("the widest", Edge.told("wave 1 1 0 0 0 0; wave 1 1 1 0 0 0; wave 0 1 1 1 0 0;").ask(0, 0), 1);
        Edge.due("the last", Edge.told("wave 1 0 0 0 0 0;".repeat(4) + "wave 1 1 0 0 0 0;").ask(0, 0), 4);
        Edge.due("one case", Edge.told("wave 1 0 0 0 0 0;".repeat(5)).ask(0, 3), 0);
        Edge.due("fewest, not by odds", Edge.told("wave 1 1 1 0 0 0; wave 9 9 0 0 0 0;").ask(0, 0), 0);
        Edge.due("all of five", Edge.told("wave 9 9 9 9 9 9;".repeat(5)).ask(0, 0), 0);
        // By what is told the first wave is sure but for a lie.
        GuessFerry x = Edge.told("wave 1 1 1 0 0 0; wave 1 1 0 0 0 0;");
        x.tell(0, 1, true);
        Edge.due("the first is sure", x.ask(1, 0), 1);
        Edge.due("it may be a lie", x.ask(1, 1), 0);
        Edge.due("nothing is known", x.ask(0, 0), 0);
    }
}
