/** The document's part 2 (LAWS, what is so by them): a test of its own for each sentence that names a boundary. */
public final class LawEdgesTest {
    private static final String TOO_MANY_COMBOS = "ask a b post at 0 to 15 after 0 to 15 read 0 to 15;";

    public static void main(String[] args) {
        lawsUpTo8();
        clausesUpTo6();
        atMost20Rules();
        rulesAreSo();
        numbersOfRulesTo999();
        toldAgainTheLastHolds();
        withoutRules();
        noHourIfLostUnlessSent();
        smallTellsPortOrCourtAlone();
        otherButsAreNoAndOffers();
        givenWithABargainInAllCombos();
        givenElseNever();
        givenByTheLaw();
        openFromItsHour();
        endsAtTheLeast();
        backOfAnOffer();
        backBehindTheHourOfAHold();
        noToAnOffer();
        holdEndsAtHourAnd1();
        lapseEndsAtNumberAnd1();
        whyIsTheFirstOfThese();
        openNotAheadOfTheFirstAndAheadOfTheEnd();
        hourOfAYesByItsWay();
        deedIsAYesWhenSent();
        offerHadComeWhenTheYesWasSent();
        noBackOfTheYesAhead();
        offerIsOpenAtTheYesHour();
        silenceBehindWhenItsRead();
        silenceIfOpenThen();
        silenceIfNoAnswerWasSentByThen();
        theLeastHour();
        atOneHourAYesThenTheLesser();
        wordsOfAnOffer();
        wordsOfABargain();
        bindsBothHands();
        bearsFromTheBargains();
        bearsFromTheFirstSend();
        Script.end("the edges of LAWS hold");
    }

    private static void bargainAt(String name, String law, String tale, int hour) {
        Script s = Script.of(name, law, tale);
        s.due("the hour by '" + law + "' of '" + tale + "'", s.x.run(0, 0, 0, 2), hour);
    }

    private static void noBargain(String name, String law, String tale) {
        bargainAt(name, law, tale, -2);
    }

    /** due: from when on the first SAYING is OPEN, when it ENDS, why. */
    private static void opens(String name, String law, String tale, int... due) {
        Script s = Script.of(name, law, tale);
        checkOpen(s, "by '" + law + "' of '" + tale + "'", 0, 0, due);
    }

    private static void checkOpen(Script s, String text, int combo, int k, int... due) {
        s.due("from when, " + text, s.x.open(0, 0, combo, k, 0), due[0]);
        s.due("the end, " + text, s.x.open(0, 0, combo, k, 1), due[1]);
        s.due("why, " + text, s.x.open(0, 0, combo, k, 2), due[2]);
    }

    private static void lawsUpTo8() {
        Script s = new Script("LAWS, up to 8");
        for (int i = 0; i < 8; i++) {
            s.due("LAW " + i, s.law("lapse " + i + ";"), i);
            if (i == 6) {
                s.x.image();
            }
        }
        s.put("no sent;");
        String state = s.state();
        s.due("the ninth", s.x.law(8), -3);
        s.due("an empty ninth", s.x.law(0), -3);
        s.sameState("the ninth", state);
        s.x.back(0);
        s.due("room again", s.x.law(8), 7);
        s.due("no sent", s.x.rule(7, 5), 0);
        s.due("none again", s.x.law(0), -3);
    }

    private static void clausesUpTo6() {
        Script s = new Script("CLAUSES, up to 6");
        for (int i = 0; i < 6; i++) {
            s.due("CLAUSE " + i, s.clause("no sent;"), i);
            if (i == 4) {
                s.x.image();
            }
        }
        s.put("no sent;");
        String state = s.state();
        s.due("the seventh", s.x.clause(8), -3);
        s.due("an empty seventh", s.x.clause(0), -3);
        s.sameState("the seventh", state);
        s.x.back(0);
        s.due("room again", s.x.clause(8), 5);
        s.due("none again", s.x.clause(0), -3);
    }

    private static void atMost20Rules() {
        Script s = new Script("{RULE \";\"} of at most 20");
        String twenty = Script.times("no sent;", 20);
        s.badLaw(twenty + "^no sent;");
        s.badLaw(twenty + " ^no");
        s.badLaw(twenty + "^;");
        s.badClause(twenty + "\n^no sent;");
        s.badClause(twenty + "^7");
        s.due("no LAW", s.x.count(1), 0);
        s.due("no CLAUSE", s.x.count(2), 0);
        s.due("20", s.law(twenty + " \n"), 0);
        s.due("20", s.x.rule(0, 13), 20);
        s.due("20", s.clause(twenty + " "), 0);
        s.due("none", s.x.law(0), 1);
        s.due("none", s.x.rule(1, 13), 0);
        s.due("blanks alone", s.law(" \n "), 2);
        s.due("none", s.x.rule(2, 13), 0);
        s.due("one", s.law("no sent;"), 3);
        s.due("one", s.x.rule(3, 13), 1);
    }

    private static void rulesAreSo() {
        String[] bad = {"^ask sent;", "^rule;", "^7;", "^;", "^yess all sent;", "yes ^deed sent;", "yes ^sent;",
            "yes all^;", "yes all ^post;", "yes all ^", "yes all sent^", "yes all sent ^sent;", "offer ^all sent;",
            "offer ^went;", "offer ^", "back ^7;", "back ^", "no ^yes;", "no ^", "hold ^bind;", "hold ^7;", "hold ^",
            "lapse ^none;", "lapse ^", "silence ^come;", "silence ^", "but ^yes;", "but ^large;", "but ^",
            "form ^middle;", "form ^", "deed ^no;", "deed ^", "risk ^read;", "risk ^", "risk come^", "no sent;^;",
            "no sent;no^", "no sent^,"};
        for (String one : bad) {
            Script s = new Script("RULE");
            s.badLaw(one);
            s.badClause(one);
        }
    }

    private static void numbersOfRulesTo999() {
        Script s = new Script("NUMBER: 0 to 999");
        for (String verb : new String[] {"lapse", "silence"}) {
            for (String number : new String[] {"1000", "9999", "10000", "00000", "-1", "x", ""}) {
                s.badLaw(verb + " ^" + number + ";");
                s.badClause("no sent;" + verb + " ^" + number + ";");
            }
        }
        s.due("0", s.law("lapse 0;silence 0;"), 0);
        s.due("lapse", s.x.rule(0, 7), 0);
        s.due("silence", s.x.rule(0, 8), 0);
        s.due("999", s.law("lapse 999;silence 999;"), 1);
        s.due("lapse", s.x.rule(1, 7), 999);
        s.due("silence", s.x.rule(1, 8), 999);
        s.due("four digits", s.law("lapse 0999;silence 0000;"), 2);
        s.due("lapse", s.x.rule(2, 7), 999);
    }

    private static void toldAgainTheLastHolds() {
        String[] laws = {"yes all sent;yes wire read;", "yes wire read;yes all sent;", "yes post read;yes post sent;",
            "offer read;offer sent;", "back sent;back read;back sent;", "no read;no come;no sent;",
            "hold free;hold binds;", "lapse 9;lapse 0;", "silence 0;silence 9;", "but no;but small;",
            "form none;form last;", "deed none;deed yes;", "risk sent;risk come;"};
        // The number in laws, what is asked of it, the answer.
        int[][] due = {{0, 0, 0}, {0, 1, 2}, {0, 2, 0}, {1, 0, 0}, {1, 1, 0}, {1, 2, 0}, {2, 0, 0}, {2, 1, 1},
            {3, 3, 0}, {4, 4, 0}, {5, 5, 0}, {6, 6, 1}, {7, 7, 0}, {8, 8, 9}, {9, 9, 1}, {10, 10, 1}, {11, 11, 1},
            {12, 12, 2}};
        for (int[] one : due) {
            Script s = new Script("Of what is told again the last one holds");
            s.law(laws[one[0]]);
            s.due(laws[one[0]] + " rule " + one[1], s.x.rule(0, one[1]), one[2]);
        }
        Script s = new Script("\"all\": of all three ways");
        s.law("yes all read;");
        for (int what = 0; what < 3; what++) {
            s.due("yes " + what, s.x.rule(0, what), 2);
        }
        s.due("offer", s.x.rule(0, 3), 1);
        s.due("each RULE counts", s.x.rule(0, 13), 1);
        s.law("yes all read;yes all read;");
        s.due("each RULE counts", s.x.rule(1, 13), 2);
    }

    private static void withoutRules() {
        Script s = new Script("Without: yes come, offer come, back come, no come, hold free, no lapse, ..");
        s.law("");
        int[] due = {1, 1, 1, 1, 1, 1, 0, -1, -1, 0, 0, 0, 0, 0};
        for (int what = 0; what < 14; what++) {
            s.due("rule(0, " + what + ")", s.x.rule(0, what), due[what]);
        }
        String name = "Without";
        bargainAt(name, "", "offer a b mouth at 1;yes b 0 post at 5 after 2 read 3;", 7);
        bargainAt(name, "", "offer a b mouth at 1;yes b 0 wire at 5 after 2 read 3;", 7);
        opens(name, "", "offer a b post at 1 after 2 read 3;", 3, 9999, 0);
        opens(name, "", "offer a b hold 99 mouth at 1;back a 0 post at 5 after 2 read 3;", 1, 7, 1);
        opens(name, "", "offer a b mouth at 1;no b 0 post at 5 after 2 read 3;", 1, 7, 2);
        noBargain(name, "", "offer a b mouth at 1;deed b 0 mouth at 2;");
        noBargain(name, "", "offer a b mouth at 1;yes b 0 but port 1 mouth at 2;");
    }

    private static void noHourIfLostUnlessSent() {
        String name = "a SAYING's hour by a WHEN: none, if it's lost and that isn't \"sent\"";
        String[] whens = {"sent", "come", "read"};
        int[] notLost = {5, 7, 10};
        for (int w = 0; w < 3; w++) {
            String times = "post at 5 after 2 read 3 lost;";
            Script s = Script.of(name, "offer " + whens[w] + ";", "offer a b " + times);
            s.due("offer", s.x.open(0, 0, 0, 0, 0), notLost[w]);
            s.due("offer, lost", s.x.open(0, 0, 1, 0, 0), w == 0 ? 5 : -1);
            Script t = Script.of(name, "back " + whens[w] + ";", "offer a b mouth at 1;back a 0 " + times);
            t.due("back", t.x.open(0, 0, 0, 0, 1), notLost[w]);
            t.due("back, lost", t.x.open(0, 0, 1, 0, 1), w == 0 ? 5 : 9999);
            t.due("back, lost", t.x.open(0, 0, 1, 0, 2), w == 0 ? 1 : 0);
            Script u = Script.of(name, "no " + whens[w] + ";", "offer a b mouth at 1;no b 0 " + times);
            u.due("no", u.x.open(0, 0, 0, 0, 1), notLost[w]);
            u.due("no, lost", u.x.open(0, 0, 1, 0, 1), w == 0 ? 5 : 9999);
            u.due("no, lost", u.x.open(0, 0, 1, 0, 2), w == 0 ? 2 : 0);
            Script v = Script.of(name, "yes post " + whens[w] + ";", "offer a b mouth at 1;yes b 0 " + times);
            v.due("yes", v.x.run(0, 0, 0, 2), notLost[w]);
            v.due("yes, lost", v.x.run(0, 0, 1, 2), w == 0 ? 5 : -2);
        }
        Script s = Script.of(name, "deed yes;", "offer a b mouth at 1;deed b 0 post at 5 after 2 lost;");
        s.due("a lost deed was sent", s.x.run(0, 0, 1, 2), 5);
    }

    private static void smallTellsPortOrCourtAlone() {
        String[] told = {"port 2", "court 2", "port 2 court 3", "court 3 port 2", "port 0", "price 2", "much 2",
            "day 2", "port 2 day 3", "price 1 court 2", "much 0 port 0 court 0",
            "price 1 much 2 day 3 port 4 court 5"};
        for (int i = 0; i < told.length; i++) {
            boolean small = i < 5;
            Script s = Script.of("A SMALL one tells port or court alone", "but small;", "offer a b price 1 mouth at 1;"
                    + "yes b 0 but " + told[i] + " mouth at 2;");
            s.due(told[i], s.x.run(0, 0, 0, 2), small ? 2 : -2);
            s.due(told[i] + ", an OFFER", s.x.open(0, 0, 0, 1, 0), small ? -2 : 2);
            s.due(told[i] + ", the end of what it answers", s.x.open(0, 0, 0, 0, 1), small ? 9999 : 2);
            s.due(told[i] + ", a yes with but all the same", s.x.saying(0, 1, 0), 3);
        }
        noBargain("SMALL, if the LAW's \"but\" is small", "but small;but no;",
                "offer a b mouth at 1;yes b 0 but port 2 mouth at 2;");
    }

    private static void otherButsAreNoAndOffers() {
        String name = "All other ones with \"but\" are a \"no\" to what they answer, and OFFERS";
        String tale = "offer a b mouth at 1;yes b 0 but port 2 post at 5 after 2 read 3;";
        Script s = Script.of(name, "no read;offer sent;yes all come;", tale);
        checkOpen(s, "what it answers", 0, 0, 1, 10, 2);
        checkOpen(s, "itself", 0, 1, 5, 9999, 0);
        s.due("what it DOES", s.x.does(0, 0, 0, 1), 1 | 2);
        s.more(0, "yes a 1 mouth at 7;");
        s.due("a bargain", s.x.run(0, 0, 0, 0), 2);
        s.due("on it", s.x.run(0, 0, 0, 1), 1);
        noBargain("a yes with but is no YES", "", tale);
    }

    private static void givenWithABargainInAllCombos() {
        String name = "An OFFER with \"given\": if that CASE is LOOKED at and has a bargain by the LAW in all COMBOS";
        String given = "offer a b given 0 post at 10 after 2;yes b 0 mouth at 12;";
        String[] sure = {"offer a b mouth at 1;yes b 0 mouth at 2;",
            "offer a b mouth at 1 to 2;yes b 0 post at 2 after 1 to 2;",
            "offer a b mouth at 0 to 15;yes b 0 mouth at 15 to 30;ask a b mouth at 0 to 3;"};
        for (String one : sure) {
            Script s = Script.of(name, "", one);
            s.due("in all COMBOS", s.x.sure(0, 0, 2), -1);
            s.tell(given);
            s.due("OPEN from", s.x.open(1, 0, 0, 0, 0), 12);
            s.due("a bargain", s.x.run(1, 0, 0, 2), 12);
        }
        Script s = Script.of("given on through all 16 CASES", "", sure[0]);
        for (int i = 1; i < 16; i++) {
            s.tell("offer a b given " + (i - 1) + " mouth at 1;yes b 0 mouth at 2;");
        }
        s.due("the last", s.x.run(15, 0, 0, 2), 2);
        s.more(0, "back a 0 mouth at 1;");
        s.due("the last, when the first has none", s.x.run(15, 0, 0, 2), -2);
    }

    private static void givenElseNever() {
        String name = "An OFFER with \"given\": else never";
        String given = "offer a b given 0 mouth at 10;offer a b mouth at 10;yes b 0 mouth at 12;yes b 1 mouth at 20;";
        String[] unsure = {"ask a b mouth at 1;", "offer a b mouth at 0 to 15;yes b 0 mouth at 14;",
            "offer a b mouth at 1;yes b 0 mouth at 0 to 1;", "offer a b mouth at 1;yes b 0 mouth at 0;",
            "offer a b mouth at 1;yes b 0 mouth at 2;" + TOO_MANY_COMBOS};
        for (String one : unsure) {
            Script s = Script.of(name, "", one);
            s.tell(given);
            s.due("never OPEN: " + one, s.x.open(1, 0, 0, 0, 0), -1);
            s.due("what it DOES", s.x.does(1, 0, 0, 0), 0);
            s.due("another is", s.x.open(1, 0, 0, 1, 0), 10);
            s.due("the bargain is on that", s.x.run(1, 0, 0, 1), 1);
            s.due("nothing to take", s.x.until(1, 0, 0, 1, 2), 19);
        }
        Script s = Script.of("given, by letters found later", "", "offer a b mouth at 1;yes b 0 mouth at 2;");
        s.tell("offer a b given 0 mouth at 10;yes b 0 mouth at 12;");
        s.due("as told", s.x.run(1, 0, 0, 2), 12);
        s.more(0, TOO_MANY_COMBOS);
        s.due("no longer LOOKED at", s.x.run(1, 0, 0, 2), -2);
    }

    private static void givenByTheLaw() {
        Script s = Script.of("given: a bargain by the LAW", "yes all sent;",
                "offer a b hold 9 mouth at 1;yes b 0 post at 5 after 9;");
        s.law("");
        s.tell("offer a b given 0 mouth at 10;yes b 0 mouth at 12;");
        s.due("by the one", s.x.run(1, 0, 0, 2), 12);
        s.due("not by the other", s.x.run(1, 1, 0, 2), -2);
        s.due("by the one again", s.x.run(1, 0, 0, 2), 12);
    }

    private static void openFromItsHour() {
        String name = "OPEN from its hour by \"offer\" on";
        String offer = "offer a b post at 10 after 5 read 3;";
        opens(name, "offer sent;", offer, 10, 9999, 0);
        opens(name, "offer come;", offer, 15, 9999, 0);
        opens(name, "offer read;", offer, 18, 9999, 0);
        noBargain(name, "offer read;", offer + "yes b 0 mouth at 17;");
        bargainAt(name, "offer read;", offer + "yes b 0 mouth at 18;", 18);
        bargainAt(name, "offer read;", offer + "yes b 0 post at 15 after 3;", 18);
        noBargain(name, "offer read;", offer + "yes b 0 post at 15 after 2;");
        opens("at hour 0", "", "offer a b mouth at 0;", 0, 9999, 0);
        opens("at the greatest hour", "offer read;", "offer a b post at 1999 after 999 read 999;", 3997, 9999, 0);
    }

    private static void endsAtTheLeast() {
        String name = "it ENDS at the least of";
        String offer = "offer a b mouth at 10;";
        opens(name, "", offer + "back a 0 mouth at 30;back a 0 mouth at 20;back a 0 mouth at 25;", 10, 20, 1);
        opens(name, "", offer + "no b 0 mouth at 30;no b 0 mouth at 20;no b 0 mouth at 25;", 10, 20, 2);
        opens(name, "", offer + "back a 0 mouth at 21;no b 0 mouth at 20;", 10, 20, 2);
        opens(name, "", offer + "back a 0 mouth at 20;no b 0 mouth at 21;", 10, 20, 1);
        opens(name, "lapse 8;", offer + "back a 0 mouth at 20;no b 0 mouth at 20;", 10, 19, 4);
        opens(name, "", "offer a b hold 18 mouth at 10;back a 0 mouth at 20;no b 0 mouth at 20;", 10, 19, 3);
        opens("not at all", "", offer + "offer a b mouth at 1;back a 1 mouth at 20;no b 1 mouth at 20;", 10, 9999, 0);
    }

    private static void backOfAnOffer() {
        String name = "each \"back\" of it: its hour by \"back\"";
        String tale = "offer a b mouth at 1;back a 0 post at 20 after 3 read 2;";
        opens(name, "back sent;", tale, 1, 20, 1);
        opens(name, "back come;", tale, 1, 23, 1);
        opens(name, "back read;", tale, 1, 25, 1);
        opens("a back ahead of the OFFER", "", "offer a b mouth at 10;back a 0 mouth at 5;", 10, 5, 1);
        noBargain("a back ahead of the OFFER", "", "offer a b mouth at 10;back a 0 mouth at 5;yes b 0 mouth at 10;");
        opens("at hour 0", "", "offer a b mouth at 0;back a 0 mouth at 0;", 0, 0, 1);
    }

    private static void backBehindTheHourOfAHold() {
        String name = "with a \"hold\" and a LAW that binds: only if that is behind the HOUR; else it does nothing";
        String held = "offer a b hold 50 mouth at 10;back a 0 mouth at ";
        opens(name, "hold binds;", held + "49;", 10, 51, 3);
        opens(name, "hold binds;", held + "50;", 10, 51, 3);
        opens(name, "hold binds;", held + "51;", 10, 51, 1);
        opens(name, "hold binds;", held + "52;", 10, 51, 3);
        opens("a LAW that doesn't bind", "hold free;", held + "50;", 10, 50, 1);
        opens("a LAW that doesn't bind", "hold free;", held + "51;", 10, 51, 1);
        opens("no hold", "hold binds;", "offer a b mouth at 10;back a 0 mouth at 50;", 10, 50, 1);
        opens("hold 0", "hold binds;", "offer a b hold 0 mouth at 0;back a 0 mouth at 0;", 0, 1, 3);
        opens("hold 1,999", "hold binds;", "offer a b hold 1999 mouth at 0;back a 0 post at 1999 after 1;", 0, 2000, 1);
        // Its hour by "back", not when it's sent, must be behind.
        String post = "offer a b hold 50 mouth at 10;back a 0 post at 50 after 1;";
        opens(name, "hold binds;back sent;", post, 10, 51, 3);
        opens(name, "hold binds;back come;", post, 10, 51, 1);
        Script s = Script.of(name, "hold binds;", held + "20;back a 0 mouth at 51;back a 0 mouth at 51;");
        s.due("the first does nothing", s.x.does(0, 0, 0, 1), 0);
        s.due("the second ends it", s.x.does(0, 0, 0, 2), 2);
        s.due("the third doesn't", s.x.does(0, 0, 0, 3), 0);
        bargainAt(name, "hold binds;", held + "20;yes b 0 mouth at 50;", 50);
        noBargain("a LAW that doesn't bind", "", held + "20;yes b 0 mouth at 50;");
    }

    private static void noToAnOffer() {
        String name = "each \"no\" to it: its hour by \"no\"";
        String tale = "offer a b mouth at 1;no b 0 post at 20 after 3 read 2;";
        opens(name, "no sent;", tale, 1, 20, 2);
        opens(name, "no come;", tale, 1, 23, 2);
        opens(name, "no read;", tale, 1, 25, 2);
        opens("a hold that binds lets a no", "hold binds;", "offer a b hold 50 mouth at 1;no b 0 mouth at 20;", 1, 20,
                2);
        String but = "offer a b mouth at 1;yes b 0 but day 1 post at 20 after 3 read 2;";
        opens(name, "no sent;yes all read;", but, 1, 20, 2);
        opens(name, "no read;yes all sent;", but, 1, 25, 2);
    }

    private static void holdEndsAtHourAnd1() {
        String name = "with \"hold\": HOUR and 1";
        String held = "offer a b hold 20 mouth at 10;";
        opens(name, "", held, 10, 21, 3);
        bargainAt(name, "", held + "yes b 0 mouth at 20;", 20);
        noBargain(name, "", held + "yes b 0 mouth at 21;");
        opens("hold 0", "", "offer a b hold 0 mouth at 0;", 0, 1, 3);
        bargainAt("hold 0", "", "offer a b hold 0 mouth at 0;yes b 0 mouth at 0;", 0);
        opens("hold 1,999", "", "offer a b hold 1999 mouth at 1999;", 1999, 2000, 3);
        noBargain("an HOUR ahead of when it comes", "", "offer a b hold 9 mouth at 10;yes b 0 mouth at 10;");
        bargainAt("the HOUR when it comes", "", "offer a b hold 10 mouth at 10;yes b 0 mouth at 10;", 10);
    }

    private static void lapseEndsAtNumberAnd1() {
        String name = "without, by \"lapse\": when it comes, NUMBER and 1";
        String offer = "offer a b post at 10 after 2 read 5;";
        opens(name, "lapse 8;", offer, 12, 21, 4);
        opens(name, "lapse 8;offer sent;", offer, 10, 21, 4);
        opens(name, "lapse 8;offer read;", offer, 17, 21, 4);
        bargainAt(name, "lapse 8;", offer + "yes b 0 mouth at 20;", 20);
        noBargain(name, "lapse 8;", offer + "yes b 0 mouth at 21;");
        opens("lapse 0", "lapse 0;", offer, 12, 13, 4);
        bargainAt("lapse 0", "lapse 0;", offer + "yes b 0 mouth at 12;", 12);
        noBargain("lapse 0", "lapse 0;", offer + "yes b 0 mouth at 13;");
        opens("lapse 999", "lapse 999;", "offer a b post at 1999 after 999;", 2998, 3998, 4);
        opens("with a hold", "lapse 0;", "offer a b hold 30 mouth at 10;", 10, 31, 3);
        opens("with a hold", "lapse 999;", "offer a b hold 30 mouth at 10;", 10, 31, 3);
        Script s = Script.of("it never comes", "lapse 8;offer sent;", "offer a b post at 10 after 2 lost;");
        checkOpen(s, "lost", 1, 0, 10, 9999, 0);
        Script t = Script.of("of a yes with but", "lapse 8;",
                "offer a b mouth at 1;yes b 0 but day 1 post at 2 after 3;");
        checkOpen(t, "a yes with but", 0, 1, 5, 14, 4);
    }

    private static void whyIsTheFirstOfThese() {
        String name = "why is the first of these (back, no, hold, lapse) with that hour";
        String held = "offer a b hold 20 mouth at 10;";
        String plain = "offer a b mouth at 10;";
        opens(name, "", plain + "no b 0 mouth at 21;back a 0 mouth at 21;", 10, 21, 1);
        opens(name, "", held + "no b 0 mouth at 21;back a 0 mouth at 21;", 10, 21, 1);
        opens(name, "", held + "back a 0 mouth at 21;", 10, 21, 1);
        opens(name, "", held + "no b 0 mouth at 21;", 10, 21, 2);
        opens(name, "hold binds;", held + "no b 0 mouth at 20;back a 0 mouth at 20;", 10, 20, 2);
        opens(name, "lapse 10;", plain + "no b 0 mouth at 21;back a 0 mouth at 21;", 10, 21, 1);
        opens(name, "lapse 10;", plain + "back a 0 mouth at 21;", 10, 21, 1);
        opens(name, "lapse 10;", plain + "no b 0 mouth at 21;", 10, 21, 2);
        opens(name, "lapse 10;", plain + "yes b 0 but day 1 mouth at 21;", 10, 21, 2);
    }

    private static void openNotAheadOfTheFirstAndAheadOfTheEnd() {
        String name = "At an hour it's OPEN, if that is not ahead of the first and is ahead of the end";
        String offer = "offer a b mouth at 10;";
        noBargain(name, "", offer + "yes b 0 mouth at 9;");
        bargainAt(name, "", offer + "yes b 0 mouth at 10;", 10);
        bargainAt(name, "", offer + "back a 0 mouth at 20;yes b 0 mouth at 19;", 19);
        noBargain(name, "", offer + "back a 0 mouth at 20;yes b 0 mouth at 20;");
        noBargain(name, "", offer + "back a 0 mouth at 20;yes b 0 mouth at 21;");
        noBargain("the first is the end", "", offer + "back a 0 mouth at 10;yes b 0 mouth at 10;");
        bargainAt("one hour alone", "", offer + "back a 0 mouth at 11;yes b 0 mouth at 10;", 10);
    }

    private static void hourOfAYesByItsWay() {
        String name = "Its hour: by \"yes\" of its WAY";
        String[] ways = {"post", "wire"};
        String[] whens = {"sent", "come", "read"};
        int[] hours = {5, 7, 10};
        for (int way = 0; way < 2; way++) {
            String tale = "offer a b mouth at 1;yes b 0 " + ways[way] + " at 5 after 2 read 3;";
            for (int w = 0; w < 3; w++) {
                String rule = "yes " + ways[way] + " " + whens[w] + ";";
                bargainAt(name, "yes all " + whens[(w + 1) % 3] + ";" + rule, tale, hours[w]);
                bargainAt(name, "yes all " + whens[w] + ";", tale, hours[w]);
                bargainAt(name, rule + "yes " + ways[1 - way] + " sent;yes mouth sent;", tale, hours[w]);
            }
        }
        for (String way : new String[] {"mouth", "deed"}) {
            String tale = "offer a b mouth at 1;yes b 0 " + way + " at 5;";
            for (int w = 0; w < 3; w++) {
                bargainAt("by mouth, and as mouth", "yes mouth " + whens[w] + ";", tale, 5);
            }
        }
    }

    private static void deedIsAYesWhenSent() {
        String name = "by a LAW's \"deed yes\" a \"deed\"; of a deed when it's sent";
        String tale = "offer a b mouth at 1;deed b 0 post at 5 after 2 read 3;";
        noBargain(name, "", tale);
        noBargain(name, "deed none;yes all sent;", tale);
        bargainAt(name, "deed yes;", tale, 5);
        bargainAt(name, "deed yes;yes all read;", tale, 5);
        noBargain("a deed ahead of the OFFER's coming", "deed yes;",
                "offer a b mouth at 6;deed b 0 post at 5 after 2;");
        Script s = Script.of("a yes by the way of a deed is no deed", "deed none;",
                "offer a b mouth at 1;yes b 0 deed at 5;");
        s.due("the YES", s.x.run(0, 0, 0, 0), 1);
    }

    private static void offerHadComeWhenTheYesWasSent() {
        String name = "if the OFFER that it answers had come when it was sent (not behind that)";
        String offer = "offer a b post at 10 after 5;";
        for (String law : new String[] {"", "offer sent;", "offer sent;yes all sent;", "offer sent;yes all read;"}) {
            noBargain(name, law, offer + "yes b 0 post at 14 after 0;");
            noBargain(name, law, offer + "yes b 0 mouth at 14;");
            bargainAt(name, law, offer + "yes b 0 post at 15 after 0;", 15);
        }
        noBargain("though the YES comes behind it", "", offer + "yes b 0 post at 14 after 9;");
        noBargain("a deed", "deed yes;offer sent;", offer + "deed b 0 mouth at 14;");
        bargainAt("a deed", "deed yes;offer sent;", offer + "deed b 0 mouth at 15;", 15);
        bargainAt("come, not read", "offer come;", "offer a b post at 10 after 5 read 9;yes b 0 mouth at 15;", 15);
        Script s = Script.of("an OFFER that never comes", "offer sent;",
                "offer a b post at 10 after 5 lost;yes b 0 mouth at 99;");
        s.due("not lost", s.x.run(0, 0, 0, 2), 99);
        s.due("lost", s.x.run(0, 0, 1, 2), -2);
    }

    private static void noBackOfTheYesAhead() {
        String name = "no \"back\" of it has an hour (by \"back\") ahead of its hour";
        String yes = "offer a b mouth at 1;yes b 0 post at 5 after 5;";
        noBargain(name, "", yes + "back b 1 wire at 6 after 3;");
        bargainAt(name, "", yes + "back b 1 wire at 6 after 4;", 10);
        bargainAt(name, "", yes + "back b 1 wire at 6 after 5;", 10);
        noBargain(name, "back sent;", yes + "back b 1 wire at 9 after 5;");
        bargainAt(name, "back sent;", yes + "back b 1 wire at 10 after 5;", 10);
        bargainAt(name, "back read;", yes + "back b 1 wire at 6 after 1 read 3;", 10);
        noBargain(name, "back read;", yes + "back b 1 wire at 6 after 1 read 2;");
        noBargain("one of two", "", yes + "back b 1 mouth at 10;back b 1 mouth at 9;");
        bargainAt("the YES's hour is when it's sent", "yes post sent;", yes + "back b 1 mouth at 5;", 5);
        bargainAt("another YES", "", yes + "yes b 0 mouth at 20;back b 1 mouth at 6;", 20);
        Script s = Script.of("a lost back has none", "", yes + "back b 1 wire at 6 after 3 lost;");
        s.due("not lost", s.x.run(0, 0, 0, 2), -2);
        s.due("lost", s.x.run(0, 0, 1, 2), 10);
        noBargain("a SMALL one", "but small;",
                "offer a b mouth at 1;yes b 0 but port 1 post at 5 after 5;back b 1 mouth at 9;");
        bargainAt("a SMALL one", "but small;",
                "offer a b mouth at 1;yes b 0 but port 1 post at 5 after 5;back b 1 mouth at 10;", 10);
    }

    private static void offerIsOpenAtTheYesHour() {
        String name = "and the OFFER is OPEN at its hour";
        String held = "offer a b hold 9 mouth at 1;";
        noBargain(name, "", held + "yes b 0 post at 8 after 2;");
        bargainAt(name, "", held + "yes b 0 post at 8 after 1;", 9);
        bargainAt(name, "yes all sent;", held + "yes b 0 post at 8 after 2;", 8);
        noBargain("the OFFER that it answers, not another", "", held + "offer a b mouth at 1;yes b 0 mouth at 10;");
    }

    private static void silenceBehindWhenItsRead() {
        String name = "By \"silence\": NUMBER hours behind when it's read";
        String offer = "offer a b post at 10 after 2 read 3;";
        noBargain("without", "", offer);
        bargainAt(name, "silence 5;", offer, 20);
        bargainAt(name, "silence 0;", offer, 15);
        bargainAt(name, "silence 999;", offer, 1014);
        bargainAt(name, "silence 5;offer sent;", offer, 20);
        bargainAt("the greatest", "silence 999;", "offer a b post at 1999 after 999 read 999;", 4996);
        bargainAt("at hour 0", "silence 0;", "offer a b mouth at 0;", 0);
        for (int number : new int[] {0, 5, 11, 99, 999}) {
            Script s = Script.of("a lost one is never read", "silence " + number + ";offer sent;",
                    "offer a b post at 10 after 2 read 3 lost;");
            s.due("not lost", s.x.run(0, 0, 0, 2), 15 + number);
            s.due("lost", s.x.run(0, 0, 1, 2), -2);
        }
        Script t = Script.of("by silence", "silence 5;", offer);
        t.due("the YES", t.x.run(0, 0, 0, 0), -1);
        t.due("the OFFER", t.x.run(0, 0, 0, 1), 0);
        noBargain("an ask is no OFFER", "silence 5;", "ask a b mouth at 1;");
        bargainAt("a yes with but is one", "silence 5;", "offer a b mouth at 1;yes b 0 but day 1 mouth at 6;", 11);
        noBargain("a SMALL one is none", "silence 5;but small;",
                "offer a b hold 1 mouth at 1;yes b 0 but port 1 mouth at 6;");
    }

    private static void silenceIfOpenThen() {
        String name = "By \"silence\": if it's OPEN then";
        bargainAt(name, "silence 5;", "offer a b hold 15 mouth at 10;", 15);
        noBargain(name, "silence 5;", "offer a b hold 14 mouth at 10;");
        bargainAt(name, "silence 5;lapse 5;", "offer a b mouth at 10;", 15);
        noBargain(name, "silence 5;lapse 4;", "offer a b mouth at 10;");
        bargainAt(name, "silence 5;", "offer a b mouth at 10;back a 0 mouth at 16;", 15);
        noBargain(name, "silence 5;", "offer a b mouth at 10;back a 0 mouth at 15;");
        bargainAt("OPEN when read", "silence 0;offer read;", "offer a b post at 10 after 2 read 3;", 15);
    }

    private static void silenceIfNoAnswerWasSentByThen() {
        String name = "By \"silence\": no yes, no, deed to it was sent by then";
        String law = "silence 5;but small;";
        String offer = "offer a b mouth at 10;";
        String[] answers = {"no b 0", "deed b 0", "yes b 0", "yes b 0 but day 1", "yes b 0 but port 1"};
        // By then: none of the OFFER's silence, but perhaps what the answer itself makes.
        int[] due = {-2, -2, 915, 920, 915};
        for (int i = 0; i < answers.length; i++) {
            bargainAt(name, law, offer + answers[i] + " post at 15 after 900;", due[i]);
            bargainAt(name, law, offer + answers[i] + " post at 14 after 901;", due[i]);
            bargainAt(name, law, offer + answers[i] + " post at 16 after 900;", 15);
            Script s = Script.of(name, law, offer + answers[i] + " post at 15 after 900 lost;");
            s.due("a lost answer was sent: " + answers[i], s.x.run(0, 0, 1, 2), -2);
        }
        bargainAt("a send is no answer", law, offer + "send a 0 mouth at 12;", 15);
        bargainAt("nor is an ask", law, offer + "ask b a mouth at 12;", 15);
        bargainAt("an answer to another", law, offer + "offer a b mouth at 10;no b 1 mouth at 12;", 15);
        bargainAt("an answer ahead of the OFFER", law, offer + "no b 0 post at 5 after 900;", -2);
    }

    private static void theLeastHour() {
        String name = "The bargain is the one with the least hour";
        String two = "offer a b mouth at 1;offer b a mouth at 1;";
        Script s = Script.of(name, "", two
                + "yes b 0 mouth at 9;yes a 1 mouth at 8;yes b 0 mouth at 7;yes a 1 mouth at 8;");
        s.due("the YES", s.x.run(0, 0, 0, 0), 4);
        s.due("the OFFER", s.x.run(0, 0, 0, 1), 0);
        s.due("the hour", s.x.run(0, 0, 0, 2), 7);
        Script t = Script.of(name, "silence 5;", two + "offer a c mouth at 0;yes b 0 mouth at 6;");
        t.due("silence is earlier", t.x.run(0, 0, 0, 0), -1);
        t.due("the hour", t.x.run(0, 0, 0, 2), 5);
        t.due("the OFFER", t.x.run(0, 0, 0, 1), 2);
    }

    private static void atOneHourAYesThenTheLesser() {
        Script s = Script.of("at one hour a YES's ahead of silence's", "silence 5;",
                "offer a c mouth at 1;offer a b mouth at 1;"
                + "ask a b mouth at 1;yes b 1 mouth at 6;");
        s.due("the YES", s.x.run(0, 0, 0, 0), 3);
        s.due("its OFFER", s.x.run(0, 0, 0, 1), 1);
        s.due("the hour", s.x.run(0, 0, 0, 2), 6);
        Script t = Script.of("then the lesser SAYING's", "deed yes;", "offer a b mouth at 1;offer a b mouth at 2;"
                + "deed b 1 mouth at 6;yes b 0 mouth at 6;deed b 0 mouth at 6;");
        t.due("the YES", t.x.run(0, 0, 0, 0), 2);
        t.due("its OFFER", t.x.run(0, 0, 0, 1), 1);
        Script u = Script.of("of silence: the OFFER's", "silence 5;",
                "ask a b mouth at 1;offer c b mouth at 3;offer b a mouth at 2;"
                + "offer a b mouth at 2;");
        u.due("the OFFER", u.x.run(0, 0, 0, 1), 2);
        u.due("the hour", u.x.run(0, 0, 0, 2), 7);
    }

    private static void wordsOfAnOffer() {
        Script s = Script.of("WORDS of a \"yes\" with \"but\": its own over those of the OFFER that it answers", "",
                "offer a b price 1 much 2 day 3 mouth at 1;yes b 0 but price 4 mouth at 2;"
                        + "yes a 1 but port 0 mouth at 3;"
                        + "yes b 2 but price 999 mouth at 4;yes a 3 mouth at 5;");
        int[] due = {999, 2, 3, 0, -1};
        for (int w = 0; w < 5; w++) {
            s.due("WORD " + w, s.x.run(0, 0, 0, 10 + w), due[w]);
        }
        StringBuilder tale = new StringBuilder("offer a b court 7 mouth at 1;");
        for (int k = 1; k < 11; k++) {
            tale.append("yes ").append(k % 2 == 1 ? "b " : "a ").append(k - 1).append(" but day ").append(k).append(" mouth at 1;");
        }
        Script t = Script.of("through eleven OFFERS", "", tale + "yes b 10 mouth at 1;");
        t.due("the OFFER", t.x.run(0, 0, 0, 1), 10);
        t.due("day", t.x.run(0, 0, 0, 12), 10);
        t.due("court", t.x.run(0, 0, 0, 14), 7);
        String twelve = tale + "yes b 10 but day 11 mouth at 1;";
        Script v = Script.of("through all twelve", "silence 5;", twelve);
        v.due("the OFFER", v.x.run(0, 0, 0, 1), 11);
        v.due("day", v.x.run(0, 0, 0, 12), 11);
        v.due("court", v.x.run(0, 0, 0, 14), 7);
        Script u = Script.of("as told (NONE: not)", "", "offer a b price 0 mouth at 1;yes b 0 mouth at 2;");
        u.due("price", u.x.run(0, 0, 0, 10), 0);
        u.due("much", u.x.run(0, 0, 0, 11), -1);
    }

    private static void wordsOfABargain() {
        String tale = "offer a b price 9 port 1 mouth at 10;yes b 0 but court 3 port 2 mouth at 12;";
        String[] forms = {"", "form first;", "form last;", "form none;"};
        int[][] due = {{9, -1, -1, 1, -1}, {9, -1, -1, 1, -1}, {9, -1, -1, 2, 3}, {9, -1, -1, -1, -1}};
        for (int i = 0; i < 4; i++) {
            Script s = Script.of("those that a SMALL one tells: by \"form\": the OFFER's, the SMALL one's, none",
                    "but small;" + forms[i], tale);
            for (int w = 0; w < 5; w++) {
                s.due(forms[i] + " WORD " + w, s.x.run(0, 0, 0, 10 + w), due[i][w]);
            }
            Script t = Script.of("a plain yes tells none", "but small;" + forms[i],
                    "offer a b price 9 port 1 mouth at 10;yes b 0 mouth at 11;");
            t.due("port", t.x.run(0, 0, 0, 13), 1);
            Script u = Script.of("nor does silence", "but small;silence 0;" + forms[i], tale);
            u.due("port", u.x.run(0, 0, 0, 13), 1);
        }
    }

    private static void bindsBothHands() {
        String[] pairs = {"a b", "a c", "b a", "b c", "c a", "c b"};
        int[] due = {3, 5, 3, 6, 5, 6};
        for (int i = 0; i < 6; i++) {
            Script s = Script.of("It BINDS the OFFER's HAND and the one to whom it's made", "silence 5;", "offer "
                    + pairs[i] + " mouth at 1;");
            s.due(pairs[i], s.x.binds(0, 0, 0), due[i]);
        }
        Script s = Script.of("no bargain", "", "offer a b mouth at 1;");
        s.due("none", s.x.binds(0, 0, 0), 0);
    }

    /** The OFFER's HAND is b, the other one c; the other bears the goods from some hour on (NONE: never). */
    private static void bearsFrom(String name, String law, String tale, int combo, int hour) {
        Script s = Script.of(name, law, tale);
        s.due("at 0", s.x.bears(0, 0, combo, 0), hour == 0 ? 2 : 1);
        if (hour == -1) {
            s.due("never", s.x.bears(0, 0, combo, Integer.MAX_VALUE), 1);
        } else {
            s.due("at the hour", s.x.bears(0, 0, combo, hour), 2);
            s.due("behind it", s.x.bears(0, 0, combo, Integer.MAX_VALUE), 2);
        }
        if (hour > 0) {
            s.due("ahead of it", s.x.bears(0, 0, combo, hour - 1), 1);
        }
    }

    private static void bearsFromTheBargains() {
        String name = "by \"risk\": from the bargain's";
        String tale = "offer b c mouth at 10;yes c 0 mouth at 12;send b 0 post at 20 after 5;";
        bearsFrom(name, "", tale, 0, 12);
        bearsFrom(name, "risk bargain;", tale, 0, 12);
        bearsFrom("at hour 0", "", "offer b c mouth at 0;yes c 0 mouth at 0;", 0, 0);
        bearsFrom("by silence", "silence 5;", "offer b c mouth at 10;", 0, 15);
    }

    private static void bearsFromTheFirstSend() {
        String name = "from the first hour (by sent, come) of a \"send\" of that OFFER, but not ahead of the bargain's";
        String made = "offer b c mouth at 10;yes c 0 mouth at 12;";
        String sends = "send b 0 post at 20 after 9;send b 0 post at 22 after 3;send b 0 mouth at 40;";
        bearsFrom(name, "risk sent;", made + sends, 0, 20);
        bearsFrom(name, "risk come;", made + sends, 0, 25);
        bearsFrom("at the bargain's", "risk sent;", made + "send b 0 post at 12 after 5;", 0, 12);
        bearsFrom("ahead of the bargain's", "risk sent;", made + "send b 0 post at 11 after 5;", 0, 12);
        bearsFrom("ahead of the bargain's", "risk come;", made + "send b 0 post at 5 after 5;", 0, 12);
        bearsFrom("behind the bargain's", "risk come;", made + "send b 0 post at 5 after 8;", 0, 13);
        bearsFrom("no send", "risk sent;", made, 0, -1);
        bearsFrom("no send", "risk come;", made, 0, -1);
        bearsFrom("of another OFFER", "risk sent;", made + "offer b c mouth at 13;send b 2 mouth at 14;", 0, -1);
        String lost = made + "send b 0 post at 20 after 9 lost;";
        bearsFrom("a lost one was sent", "risk sent;", lost, 1, 20);
        bearsFrom("a lost one never comes", "risk come;", lost, 1, -1);
        bearsFrom("a lost one never comes", "risk come;", lost + "send b 0 mouth at 50;", 1, 50);
    }
}
