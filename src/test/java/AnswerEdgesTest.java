/** The document's part 2 from DOES on, and its part 3: a test of its own for each sentence that names a boundary. */
public final class AnswerEdgesTest {
    private static final String TOO_MANY_COMBOS = "ask a b post at 0 to 15 after 0 to 15 read 0 to 15;";

    public static void main(String[] args) {
        doesOneOfAnOpenOffer();
        doesTwoOfTheFirstBack();
        doesTwoElseOfTheFirstNo();
        doesTwoOnlyBecauseOfThat();
        doesFourOfTheYes();
        doesEightOfABackAhead();
        canTakeBackAnOpenOffer();
        canTakeBackWhatIsHeld();
        canTakeWhatHasCome();
        canAheadOfTheBargains();
        canFromHour0To9998();
        untilTheLastHour();
        untilHour0And9998();
        untilNever();
        lostForSure();
        lostIsNotAsked();
        wiredComesAtOnce();
        wiredIsNeverLost();
        imagesUpTo4();
        imagesAsTheyAre();
        hangsOnTheFewest();
        hangsWithUpTo12();
        apartIfOneHasNone();
        apartAtUnlikeHours();
        apartOnUnlikeWords();
        shortestWithTheFewestSayings();
        shortestOfThoseLookedAt();
        writtenTheFewest();
        writtenTheLeastBits();
        writtenInTheirOrder();
        writtenInEachComboByEachLaw();
        writtenFromTheFirstOn();
        writtenChangesNothing();
        writtenWithAllSix();
        Script.end("the edges of answers hold");
    }

    /** due: what each SAYING of the CASE DOES in COMBO 0. */
    private static void does(String name, String law, String tale, int... due) {
        Script s = Script.of(name, law, tale);
        for (int k = 0; k < due.length; k++) {
            s.due("SAYING " + k + " of '" + tale + "' by '" + law + "'", s.x.does(0, 0, 0, k), due[k]);
        }
        s.due("as many as it has", s.x.asked(0, 0), due.length);
    }

    private static void doesOneOfAnOpenOffer() {
        String name = "DOES 1: it's an OFFER that is OPEN from some hour on";
        does(name, "", "offer a b mouth at 0;", 1);
        does(name, "", "ask a b mouth at 0;", 0);
        does(name, "", "offer a b mouth at 1;yes b 0 but port 1 mouth at 9;", 1, 1 | 2);
        does("a SMALL one is none", "but small;", "offer a b mouth at 1;yes b 0 but port 1 mouth at 9;", 1, 4);
        String lost = "offer a b post at 10 after 2 lost;";
        Script s = Script.of(name, "", lost);
        s.due("not lost", s.x.does(0, 0, 0, 0), 1);
        s.due("lost", s.x.does(0, 0, 1, 0), 0);
        Script t = Script.of(name, "offer sent;", lost);
        t.due("lost, but sent", t.x.does(0, 0, 1, 0), 1);
        Script u = Script.of(name, "", "ask a b mouth at 1;");
        u.tell("offer a b given 0 mouth at 1;");
        u.due("given in vain", u.x.does(1, 0, 0, 0), 0);
    }

    private static void doesTwoOfTheFirstBack() {
        String name = "DOES 2: it's the first \"back\" with the hour at which an OFFER ENDS because of that";
        String offer = "offer a b mouth at 1;";
        does(name, "", offer + "back a 0 mouth at 20;back a 0 mouth at 20;", 1, 2, 0);
        does(name, "", offer + "back a 0 mouth at 21;back a 0 mouth at 20;back a 0 mouth at 20;", 1, 0, 2, 0);
        does(name, "", offer + "no b 0 mouth at 20;back a 0 mouth at 20;", 1, 0, 2);
        does(name, "back sent;", offer + "back a 0 post at 20 after 9;back a 0 mouth at 21;", 1, 2, 0);
        does(name, "back come;", offer + "back a 0 post at 20 after 9;back a 0 mouth at 21;", 1, 0, 2);
        does("of each OFFER its own", "", offer + offer + "back a 1 mouth at 20;back a 0 mouth at 20;", 1, 1, 2, 2);
        does("with the hold's hour", "", "offer a b hold 19 mouth at 1;back a 0 mouth at 20;", 1, 2);
        does("with the lapse's hour", "lapse 18;", offer + "back a 0 mouth at 20;", 1, 2);
    }

    private static void doesTwoElseOfTheFirstNo() {
        String name = "DOES 2: (else \"no\")";
        String offer = "offer a b mouth at 1;";
        does(name, "", offer + "no b 0 mouth at 20;no b 0 mouth at 20;", 1, 2, 0);
        does(name, "", offer + "back a 0 mouth at 21;no b 0 mouth at 21;no b 0 mouth at 20;", 1, 0, 0, 2);
        does(name, "", offer + "yes b 0 but day 1 mouth at 20;no b 0 mouth at 20;", 1, 1 | 2, 0);
        does(name, "", offer + "no b 0 mouth at 20;yes b 0 but day 1 mouth at 20;", 1, 2, 1);
        does("with the hold's hour", "", "offer a b hold 19 mouth at 1;no b 0 mouth at 20;", 1, 2);
        does("with the lapse's hour", "lapse 18;", offer + "no b 0 mouth at 20;", 1, 2);
    }

    private static void doesTwoOnlyBecauseOfThat() {
        String name = "DOES 2: because of that";
        does(name, "", "offer a b hold 18 mouth at 1;back a 0 mouth at 20;no b 0 mouth at 20;", 1, 0, 0);
        does(name, "lapse 17;", "offer a b mouth at 1;back a 0 mouth at 20;no b 0 mouth at 20;", 1, 0, 0);
        does("what does nothing", "hold binds;", "offer a b hold 20 mouth at 1;back a 0 mouth at 20;", 1, 0);
        Script s = Script.of("a lost one", "",
                "offer a b mouth at 1;back a 0 post at 5 after 1 lost;no b 0 post at 9 after 1 lost;");
        int[][] due = {{2, 0}, {0, 2}, {2, 0}, {0, 0}};
        for (int combo = 0; combo < 4; combo++) {
            s.due("back in COMBO " + combo, s.x.does(0, 0, combo, 1), due[combo][0]);
            s.due("no in COMBO " + combo, s.x.does(0, 0, combo, 2), due[combo][1]);
        }
    }

    private static void doesFourOfTheYes() {
        String name = "DOES 4: the bargain is made by it (by silence: by none)";
        String offer = "offer a b mouth at 1;";
        does(name, "", offer + "yes b 0 mouth at 9;yes b 0 mouth at 9;", 1, 4, 0);
        does(name, "", offer + "yes b 0 mouth at 9;yes b 0 mouth at 8;", 1, 0, 4);
        does(name, "deed yes;", offer + "deed b 0 mouth at 9;", 1, 4);
        does(name, "", offer + "deed b 0 mouth at 9;", 1, 0);
        does("by silence", "silence 5;", offer + "yes b 0 mouth at 9;", 1, 0);
        does("by silence", "silence 5;", "ask a b mouth at 1;offer a b mouth at 1;", 0, 1);
        does("no bargain", "", offer + "yes b 0 mouth at 0;", 1, 0);
    }

    private static void doesEightOfABackAhead() {
        String name = "DOES 8: it's a \"back\" of a YES (that has an hour) with an hour (by \"back\") ahead of the YES's";
        String yes = "offer a b mouth at 1;yes b 0 post at 5 after 5;";
        does(name, "", yes + "back b 1 mouth at 9;back b 1 mouth at 8;", 1, 0, 8, 8);
        does("not ahead", "", yes + "back b 1 mouth at 10;", 1, 4, 0);
        does(name, "back sent;", yes + "back b 1 post at 9 after 5;", 1, 0, 8);
        does(name, "back come;", yes + "back b 1 post at 9 after 5;", 1, 4, 0);
        does(name, "yes all sent;", yes + "back b 1 mouth at 4;", 1, 0, 8);
        does(name, "yes all sent;", yes + "back b 1 mouth at 5;", 1, 4, 0);
        String small = "offer a b mouth at 1;yes b 0 but port 1 post at 5 after 5;back b 1 mouth at 9;";
        does("of a SMALL one", "but small;", small, 1, 0, 8);
        does("of an OFFER", "", small, 1, 3, 2);
        Script s = Script.of(name, "",
                "offer a b mouth at 1;yes b 0 post at 5 after 5 lost;back b 1 post at 5 after 1 lost;");
        int[] due = {8, 0, 0, 0};
        for (int combo = 0; combo < 4; combo++) {
            s.due("lost, COMBO " + combo, s.x.does(0, 0, combo, 2), due[combo]);
        }
        Script t = Script.of(name, "yes all sent;back sent;", "offer a b mouth at 1;yes b 0 post at 5 after 5 lost;"
                + "back b 1 post at 4 after 1 lost;");
        for (int combo = 0; combo < 4; combo++) {
            t.due("lost, but sent, COMBO " + combo, t.x.does(0, 0, combo, 2), 8);
        }
    }

    /** From one hour to another (one behind the last) a HAND CAN so, ahead and behind not. */
    private static void canFromTo(String name, String law, String tale, int hand, int bits, int from, int to) {
        Script s = Script.of(name, law, tale);
        String text = "'" + tale + "' by '" + law + "', HAND " + hand;
        if (from > 0) {
            s.due("ahead, " + text, s.x.can(0, 0, 0, hand, from - 1), 0);
        }
        s.due("the first hour, " + text, s.x.can(0, 0, 0, hand, from), from < to ? bits : 0);
        if (to > 0) {
            s.due("the last hour, " + text, s.x.can(0, 0, 0, hand, to - 1), from < to ? bits : 0);
        }
        if (to < 9999) {
            s.due("behind, " + text, s.x.can(0, 0, 0, hand, to), 0);
        }
        s.due("until 1, " + text, s.x.until(0, 0, 0, hand, 1), from < to && (bits & 1) != 0 ? to - 1 : -1);
        s.due("until 2, " + text, s.x.until(0, 0, 0, hand, 2), from < to && (bits & 2) != 0 ? to - 1 : -1);
    }

    private static void canTakeBackAnOpenOffer() {
        String name = "CAN 1: an OFFER of theirs is OPEN then that a \"back\" doing something then would end";
        String tale = "offer a b post at 10 after 5 read 3;no b 0 mouth at 20;";
        canFromTo(name, "offer sent;", tale, 0, 1, 10, 20);
        canFromTo(name, "offer come;", tale, 0, 1, 15, 20);
        canFromTo(name, "offer read;", tale, 0, 1, 18, 20);
        canFromTo("of a yes with but", "",
                "offer a b hold 0 mouth at 1;yes b 0 but port 1 mouth at 9;no a 1 mouth at 20;", 1, 1, 9, 20);
        Script s = Script.of("not the other's, nor a third's", "", "offer a b mouth at 10;");
        s.due("b", s.x.can(0, 0, 0, 1, 10), 2);
        s.due("c", s.x.can(0, 0, 0, 2, 10), 0);
        Script t = Script.of("a lost one that was sent", "offer sent;", "offer a b post at 10 after 5 lost;");
        t.due("a", t.x.can(0, 0, 1, 0, 10), 1);
        t.due("b", t.x.can(0, 0, 1, 1, 9998), 0);
        canFromTo("never OPEN", "", "offer a b hold 9 mouth at 10;", 0, 1, 10, 10);
    }

    private static void canTakeBackWhatIsHeld() {
        String name = "CAN 1: (no \"hold\", a LAW that doesn't bind, or the HOUR is behind)";
        String held = "offer a b hold 40 mouth at 10;";
        canFromTo(name, "hold free;", held, 0, 1, 10, 41);
        canFromTo("held", "hold binds;", held, 0, 1, 10, 10);
        canFromTo("no hold", "hold binds;lapse 30;", "offer a b mouth at 10;", 0, 1, 10, 41);
        Script s = Script.of("held, at each hour", "hold binds;", held);
        for (int hour : new int[] {0, 10, 39, 40, 41, 9998}) {
            s.due("hour " + hour, s.x.can(0, 0, 0, 0, hour), 0);
        }
        canFromTo("b CAN all the same", "hold binds;", held, 1, 2, 10, 41);
    }

    private static void canTakeWhatHasCome() {
        String name = "CAN 2: an OFFER made to them has come by then and is OPEN";
        String tale = "offer a b post at 10 after 5 read 3;back a 0 mouth at 20;";
        canFromTo(name, "offer sent;", tale, 1, 2, 15, 20);
        canFromTo(name, "offer come;", tale, 1, 2, 15, 20);
        canFromTo(name, "offer read;", tale, 1, 2, 18, 20);
        canFromTo("ended ahead of its coming", "offer sent;", "offer a b post at 10 after 5;back a 0 mouth at 15;", 1,
                2, 15, 15);
        canFromTo("of a yes with but", "",
                "offer a b hold 0 mouth at 1;yes b 0 but port 1 mouth at 9;no a 1 mouth at 20;", 0, 2, 9, 20);
        Script s = Script.of("both", "", "offer a b mouth at 10;offer b a mouth at 12;");
        s.due("a at 11", s.x.can(0, 0, 0, 0, 11), 1);
        s.due("a at 12", s.x.can(0, 0, 0, 0, 12), 3);
        s.due("b at 12", s.x.can(0, 0, 0, 1, 12), 3);
    }

    private static void canAheadOfTheBargains() {
        String name = "CAN of a HAND at an hour ahead of the bargain's";
        String tale = "offer a b mouth at 10;yes b 0 mouth at 30;";
        canFromTo(name, "", tale, 0, 1, 10, 30);
        canFromTo(name, "", tale, 1, 2, 10, 30);
        canFromTo("another OFFER's bargain", "", tale + "offer c a mouth at 12;", 2, 1, 12, 30);
        canFromTo("an OFFER at the bargain's hour", "", tale + "offer c a mouth at 30;", 2, 1, 30, 30);
        canFromTo("by silence", "silence 5;", "offer a b mouth at 10;", 0, 1, 10, 15);
        canFromTo("a bargain at once", "", "offer a b mouth at 10;yes b 0 mouth at 10;", 0, 1, 10, 10);
    }

    private static void canFromHour0To9998() {
        Script s = Script.of("CAN, hour 0 to 9,998", "", "offer a b mouth at 0;");
        s.due("-1", s.x.can(0, 0, 0, 0, -1), -2);
        s.due("0", s.x.can(0, 0, 0, 0, 0), 1);
        s.due("0", s.x.can(0, 0, 0, 1, 0), 2);
        s.due("9,998", s.x.can(0, 0, 0, 0, 9998), 1);
        s.due("9,998", s.x.can(0, 0, 0, 1, 9998), 2);
        s.due("9,999", s.x.can(0, 0, 0, 0, 9999), -2);
        s.due("far ahead", s.x.can(0, 0, 0, 0, Integer.MIN_VALUE), -2);
        s.due("far behind", s.x.can(0, 0, 0, 0, Integer.MAX_VALUE), -2);
    }

    private static void untilTheLastHour() {
        Script s = Script.of("UNTIL: the last hour at which they CAN so", "",
                "offer a b mouth at 10;back a 0 mouth at 20;"
                + "offer a b mouth at 30;no b 2 mouth at 31;offer a b mouth at 1;no b 4 mouth at 2;");
        s.due("a", s.x.until(0, 0, 0, 0, 1), 30);
        s.due("b", s.x.until(0, 0, 0, 1, 2), 30);
        s.due("a has none to take", s.x.until(0, 0, 0, 0, 2), -1);
        Script t = Script.of("only ahead of the bargain's", "",
                "offer a b mouth at 10;back a 0 mouth at 20;offer a b mouth at 22;"
                + "yes b 2 mouth at 22;");
        t.due("a", t.x.until(0, 0, 0, 0, 1), 19);
        t.due("b", t.x.until(0, 0, 0, 1, 2), 19);
        Script u = Script.of("what they CAN so", "hold binds;",
                "offer a b hold 40 mouth at 10;offer a b mouth at 5;no b 1 mouth at 9;");
        u.due("a", u.x.until(0, 0, 0, 0, 1), 8);
        u.due("b", u.x.until(0, 0, 0, 1, 2), 40);
    }

    private static void untilHour0And9998() {
        String name = "UNTIL: the last hour (0 to 9,998)";
        canFromTo(name, "", "offer a b hold 0 mouth at 0;", 0, 1, 0, 1);
        canFromTo(name, "", "offer a b hold 0 mouth at 0;", 1, 2, 0, 1);
        canFromTo(name, "", "offer a b mouth at 0;", 0, 1, 0, 9999);
        canFromTo(name, "", "offer a b post at 1999 after 999;", 1, 2, 2998, 9999);
    }

    private static void untilNever() {
        String name = "UNTIL, NONE: never";
        canFromTo(name, "", "offer a b mouth at 0;yes b 0 mouth at 0;", 0, 1, 0, 0);
        canFromTo(name, "", "offer a b mouth at 10;back a 0 mouth at 10;", 1, 2, 10, 10);
        canFromTo(name, "", "ask a b mouth at 10;", 0, 1, 10, 10);
        Script s = Script.of(name, "", "offer a b post at 10 after 5 lost;");
        for (int hand = 0; hand < 3; hand++) {
            s.due("lost, HAND " + hand, s.x.until(0, 0, 1, hand, 1), -1);
            s.due("lost, HAND " + hand, s.x.until(0, 0, 1, hand, 2), -1);
        }
    }

    private static void lostForSure() {
        String name = "LOST: in how many COMBOS of the CASE with it lost for sure there is a bargain";
        String tale = "offer a b post at 1 after 1;back a 0 post at 5 after 1;no b 0 wire at 6 after 1;"
                + "yes b 0 post at 9 to 11 after 1;"
                + "ask a b mouth at 1;ask a b deed at 1;";
        Script s = Script.of(name, "", tale);
        int[] due = {0, 0, 0, 0, -2, -2};
        String state = s.whole();
        for (int k = 0; k < 6; k++) {
            s.due("SAYING " + k, s.x.lost(0, 0, k), due[k]);
        }
        s.sameWhole("the CASE stays as it was", state);
        Script t = Script.of(name, "", tale.replace("no b 0", "ask b c"));
        t.due("as it is", t.x.sure(0, 0, 0), 0);
        t.due("the back lost", t.x.lost(0, 0, 1), 3);
        t.due("the OFFER lost", t.x.lost(0, 0, 0), 0);
        t.due("the YES lost", t.x.lost(0, 0, 3), 0);
        Script u = Script.of("its hours else as they are", "yes all sent;",
                "offer a b mouth at 10;yes b 0 post at 9 to 11 after 1 to 2;");
        u.due("sent", u.x.lost(0, 0, 1), 4);
        Script v = Script.of("a lost no was sent", "no sent;",
                "offer a b mouth at 1;no b 0 post at 5 after 1;yes b 0 mouth at 4 to 6;");
        v.due("sent", v.x.lost(0, 0, 1), 1);
    }

    private static void lostIsNotAsked() {
        Script s = Script.of("LOST: its \"lost\" isn't ASKED", "",
                "offer a b mouth at 1;back a 0 post at 5 after 1 lost;yes b 0 post at 9 after 1 lost;");
        s.due("as it is", s.x.sure(0, 0, 0), 1);
        s.due("the back lost", s.x.lost(0, 0, 1), 1);
        s.due("the YES lost", s.x.lost(0, 0, 2), 0);
        Script t = Script.of("not LOOKED at then", "",
                "offer a b post at 0 to 15 after 0 to 15 read 0 to 3 lost;yes b 0 mouth at 50;"
                + "ask a b wire at 1 after 1;");
        t.due("2,048 COMBOS", t.x.asked(0, 2), -1);
        t.due("1,024 then", t.x.lost(0, 0, 0), 0);
        t.due("2,048 then", t.x.lost(0, 0, 2), -2);
        t.more(0, "ask a b post at 1 after 1 lost;");
        t.due("4,096 less one", t.x.lost(0, 0, 0), -2);
        Script u = Script.of("1,024 with bargains", "",
                "offer a b mouth at 0 to 15;yes b 0 mouth at 15 to 30;ask a b post at 1 to 2 after 1 to 2 lost;");
        u.due("2,048 COMBOS", u.x.asked(0, 2), -1);
        u.due("1,024 then", u.x.lost(0, 0, 2), 1024);
    }

    private static void wiredComesAtOnce() {
        String name = "WIRED: of the CASE with it sent by wire, coming and read at once";
        Script s = Script.of(name, "yes wire read;",
                "offer a b post at 1 after 1 to 3 read 5;back a 0 mouth at 8;yes b 0 post at 4 to 9 after 9 read 9;");
        s.due("as it is", s.x.sure(0, 0, 0), 0);
        String state = s.whole();
        s.due("the YES", s.x.wired(0, 0, 2), 12);
        s.sameWhole("the CASE stays as it was", state);
        s.due("the OFFER", s.x.wired(0, 0, 0), 0);
        s.due("the back, though by mouth", s.x.wired(0, 0, 1), 0);
        Script t = Script.of("by its own hour of \"at\"", "", "offer a b post at 5 to 6 after 9;yes b 0 mouth at 5;");
        t.due("as it is", t.x.sure(0, 0, 0), 0);
        t.due("wired", t.x.wired(0, 0, 0), 1);
    }

    private static void wiredIsNeverLost() {
        String name = "WIRED: never lost";
        Script s = Script.of(name, "",
                "offer a b mouth at 1;yes b 0 post at 4 after 1 lost;ask a b wire at 1 after 1 lost;");
        s.due("COMBOS with a bargain", s.x.sure(0, 0, 0), 2);
        s.due("the YES", s.x.wired(0, 0, 1), 2);
        s.due("the ask", s.x.wired(0, 0, 2), 1);
        s.due("the OFFER", s.x.wired(0, 0, 0), 2);
        Script t = Script.of("not LOOKED at then", "",
                "offer a b mouth at 10;yes b 0 post at 11 to 26 after 0 to 15 read 0 to 15 lost;"
                + "ask a b mouth at 0 to 15;ask a b post at 0 to 3 after 0 to 1;");
        t.due("not LOOKED at", t.x.asked(0, 2), -1);
        t.due("2,048 then", t.x.wired(0, 0, 1), -2);
        t.due("far more then", t.x.wired(0, 0, 3), -2);
        Script u = Script.of("LOOKED at then", "",
                "offer a b mouth at 10;yes b 0 post at 11 to 26 after 0 to 15 read 0 to 15 lost;"
                + "ask a b mouth at 0 to 15;ask a b mouth at 0 to 3;");
        u.due("1,024 then", u.x.wired(0, 0, 1), 1024);
    }

    private static void imagesUpTo4() {
        Script s = new Script("IMAGES, up to 4");
        for (int i = 0; i < 4; i++) {
            s.due("none such yet", s.x.back(i) ? 1 : 0, 0);
            s.due("IMAGE " + i, s.x.image(), i);
            s.due("count", s.x.count(5), i + 1);
            s.tell("ask a b mouth at 1;");
        }
        String state = s.state();
        s.due("the fifth", s.x.image(), -1);
        s.sameState("the fifth", state);
        for (int i = 3; i >= 0; i--) {
            s.due("back", s.x.back(i) ? 1 : 0, 1);
            s.due("CASES", s.x.count(0), i);
            s.due("no room comes of it", s.x.image(), -1);
        }
    }

    private static void imagesAsTheyAre() {
        Script s = Script.of("IMAGES: CASES, LAWS, CLAUSES as they are; brought back at any time", "",
                "offer a b mouth at 1;");
        s.clause("silence 5;");
        s.x.image();
        String state = s.whole();
        s.more(0, "yes b 0 mouth at 2;");
        s.tell("offer a b given 0 mouth at 1;");
        s.law("silence 9;");
        s.clause("no sent;");
        s.due("more now", s.x.write(0), 0);
        s.x.back(0);
        s.sameWhole("as it was", state);
        s.due("the CLAUSE of then", s.x.write(0), 1);
        s.due("the next CASE", s.tell("ask b c mouth at 1;"), 1);
        s.due("the next LAW", s.law("no read;"), 1);
        s.due("the next CLAUSE", s.clause("no read;"), 1);
        s.due("its HAND", s.x.saying(1, 0, 1), 1);
        s.due("its RULE", s.x.rule(1, 5), 2);
        s.x.back(0);
        s.x.back(0);
        s.sameWhole("as it was, again", state);
    }

    private static void hangsOnTheFewest() {
        String name = "HANGS: the fewest ASKED ones that, known, tell whether there is a bargain";
        String[] tales = {"offer a b mouth at 10;yes b 0 mouth at 12;",
            "offer a b mouth at 10 to 12;yes b 0 mouth at 12 to 14;",
            "offer a b mouth at 10 to 12;yes b 0 mouth at 7 to 9;",
            "offer a b mouth at 10 to 11;yes b 0 mouth at 10 to 11;",
            "ask a b post at 1 to 2 after 1 lost;offer a b mouth at 10;yes b 1 mouth at 9 to 10;",
            "offer a b post at 1 after 1 lost;offer a b post at 1 after 1 lost;yes b 0 mouth at 5;yes b 1 mouth at 6;",
            "offer a b post at 1 after 1 lost;offer a b post at 1 after 1 lost;yes b 0 mouth at 5;yes b 1 mouth at 1;"};
        int[] due = {0, 0, 0, 3, 4, 3, 1};
        for (int i = 0; i < tales.length; i++) {
            Script s = Script.of(name, "", tales[i]);
            s.due(tales[i], s.x.hang(0, 0), due[i]);
        }
        // Only the last COMBO of a span turns the answer.
        Script s = Script.of(name, "", "offer a b mouth at 0 to 15;yes b 0 mouth at 14;ask a b mouth at 0 to 15;");
        s.due("the last of 16", s.x.hang(0, 0), 1);
        s.tell("offer a b mouth at 1;yes b 0 mouth at 2 to 3;");
        s.due("of two COMBOS behind that", s.x.hang(1, 0), 0);
        Script t = Script.of(name, "",
                "ask a b mouth at 0 to 15;ask a b mouth at 0 to 3;offer a b mouth at 0 to 15;yes b 2 mouth at 14;");
        t.due("1,024 COMBOS", t.x.asked(0, 2), 1024);
        t.due("the last of 1,024", t.x.hang(0, 0), 4);
    }

    private static void hangsWithUpTo12() {
        String one = "ask a b post at 1 to 1 after 1 to 1 read 1 to 1;";
        Script s = Script.of("HANGS: of a CASE with up to 12 ASKED ones", "", Script.times(one, 3)
                + "ask a b post at 1 to 1 after 1 to 1;"
                + "offer a b post at 1 after 1 lost;yes b 4 mouth at 9;");
        s.due("12 ASKED ones", s.x.asked(0, 1), 12);
        s.due("the twelfth", s.x.hang(0, 0), 1 << 11);
        s.more(0, "ask a b mouth at 1 to 1;");
        s.due("13 ASKED ones", s.x.asked(0, 1), 13);
        s.due("LOOKED at", s.x.asked(0, 2), 2);
        s.due("refused", s.x.hang(0, 0), -2);
        Script t = Script.of("10 that are ASKED with two answers each", "",
                Script.times("ask a b post at 1 after 1 lost;", 9)
                + "offer a b post at 1 after 1 lost;yes b 9 mouth at 9;");
        t.due("the tenth", t.x.hang(0, 0), 1 << 9);
    }

    private static void apart(String name, String one, String other, String tale, int many, int first) {
        Script s = Script.of(name, one, tale);
        s.law(other);
        for (int turn = 0; turn < 2; turn++) {
            s.due("how many, '" + tale + "'", s.x.apart(0, turn, 1 - turn, 0), many);
            s.due("the first, '" + tale + "'", s.x.apart(0, turn, 1 - turn, 1), first);
            s.due("with itself", s.x.apart(0, turn, turn, 0), 0);
            s.due("with itself", s.x.apart(0, turn, turn, 1), -1);
        }
    }

    private static void apartIfOneHasNone() {
        String name = "APART: if one has a bargain and the other none";
        String tale = "offer a b mouth at 10;yes b 0 post at 11 after 1 to 4;back a 0 mouth at 14;";
        apart(name, "", "back sent;lapse 3;", tale, 0, -1);
        apart(name, "", "lapse 2;", tale, 1, 1);
        apart(name, "", "but small;", "offer a b mouth at 10;yes b 0 but port 1 mouth at 12;", 1, 0);
        apart("neither has one", "", "yes all sent;", "offer a b mouth at 10;ask a b mouth at 1 to 3;", 0, -1);
        apart("the last COMBO alone", "", "lapse 14;", "offer a b mouth at 10;yes b 0 mouth at 10 to 25;", 1, 15);
    }

    private static void apartAtUnlikeHours() {
        String name = "APART: both at unlike hours";
        apart(name, "", "yes all sent;", "offer a b mouth at 10;yes b 0 post at 11 after 0 to 3;", 3, 1);
        apart(name, "", "yes all sent;", "offer a b mouth at 10;yes b 0 mouth at 11 to 13;", 0, -1);
        apart("one hour, by silence and by a YES", "silence 5;", "", "offer a b mouth at 10;yes b 0 mouth at 15;", 0,
                -1);
        apart("one hour, on unlike OFFERS that tell the same", "silence 5;", "",
                "offer a c mouth at 10;offer a b mouth at 1;"
                + "deed b 1 mouth at 2;yes b 1 mouth at 15;", 0, -1);
    }

    private static void apartOnUnlikeWords() {
        String name = "APART: on unlike WORDS";
        String small = "offer a b port 1 mouth at 10;yes b 0 but port 2 mouth at 11;";
        apart(name, "but small;form first;", "but small;form last;", small, 1, 0);
        apart(name, "but small;form first;", "but small;form none;", small, 1, 0);
        apart(name, "but small;form last;", "but small;form none;", small, 1, 0);
        apart("told alike", "but small;form first;", "but small;form last;", small.replace("port 2", "port 1"), 0, -1);
        apart("0 and none", "but small;form last;", "but small;form first;",
                "offer a b mouth at 10;yes b 0 but court 0 mouth at 11;", 1, 0);
        apart("none and none", "but small;form first;", "but small;form none;",
                "offer a b mouth at 10;yes b 0 but court 0 mouth at 11;", 0, -1);
    }

    private static void shortestWithTheFewestSayings() {
        Script s = Script.of("The SHORTEST CASE: the one with the fewest SAYINGS (the least)", "",
                "ask a b mouth at 1;");
        String parts = "offer a b mouth at 1;yes b 0 post at 2 after 1;";
        String partsOnce = "offer a b mouth at 1;yes b 0 mouth at 2 to 17;back a 0 post at 18 after 5;";
        s.law("yes all sent;");
        s.due("none", s.x.part(0, 1), -1);
        s.tell(parts + "ask a b mouth at 1;ask a b mouth at 1;");
        s.due("4 SAYINGS", s.x.part(0, 1), 1);
        s.tell(parts + "ask a b mouth at 1;ask a b mouth at 1;");
        s.due("4 SAYINGS, the least", s.x.part(0, 1), 1);
        s.tell(parts + "ask a b mouth at 1;");
        s.due("3 SAYINGS", s.x.part(0, 1), 3);
        s.tell(parts);
        s.tell(parts);
        s.due("2 SAYINGS, the least", s.x.part(1, 0), 4);
        s.tell(partsOnce);
        s.due("2 SAYINGS, the least", s.x.part(1, 0), 4);
        s.tell(parts + "ask a b mouth at 1;");
        s.due("not a longer one behind it", s.x.part(1, 0), 4);
        s.law("silence 5;");
        s.due("unlike LAWS, a CASE of their own", s.x.part(2, 0), 6);
        s.tell("offer a b mouth at 1;");
        s.due("one SAYING", s.x.part(2, 0), 8);
        s.due("with itself", s.x.part(2, 2), -1);
        Script t = Script.of("12 SAYINGS", "", Script.times("ask a b mouth at 1;", 10)
                + "offer a b mouth at 1;yes b 10 post at 2 after 1;");
        t.law("yes all sent;");
        t.due("the one", t.x.part(0, 1), 0);
        for (int i = 1; i < 15; i++) {
            t.tell("ask a b mouth at 1;");
        }
        t.tell(parts);
        t.due("the last of 16", t.x.part(0, 1), 15);
    }

    private static void shortestOfThoseLookedAt() {
        Script s = Script.of("of those LOOKED at that have such a COMBO", "",
                "offer a b mouth at 1;yes b 0 post at 2 to 17 after 1 to 16 read 1 to 16;");
        s.law("yes all sent;");
        s.due("none is LOOKED at", s.x.part(0, 1), -1);
        s.tell("offer a b mouth at 1;yes b 0 post at 2 to 17 after 1 to 16 read 1 to 4;ask a b mouth at 1;");
        s.due("1,024 COMBOS", s.x.part(0, 1), 1);
        s.tell("offer a b hold 17 mouth at 1;yes b 0 post at 2 to 17 after 0;yes b 0 post at 18 after 0 to 1;");
        s.due("one that has none", s.x.part(0, 1), 1);
        s.tell("offer a b mouth at 1;yes b 0 post at 2 after 0 to 15;");
        s.due("one with a COMBO alone that has not", s.x.part(0, 1), 3);
        Script t = Script.of("its last COMBO alone", "lapse 15;", "offer a b mouth at 1;yes b 0 mouth at 2 to 17;");
        t.law("");
        t.due("the one", t.x.part(0, 1), 0);
        t.due("in one COMBO", t.x.apart(0, 0, 1, 0), 1);
    }

    private static void writtenTheFewest() {
        Script s = Script.of("WRITTEN: the fewest CLAUSES", "",
                "offer a b hold 20 mouth at 10;yes b 0 post at 12 after 5;back a 0 mouth at 15;");
        s.due("no CLAUSES", s.x.write(0), -1);
        s.clause("risk come;");
        s.due("none helps", s.x.write(0), -1);
        s.clause("hold binds;");
        s.due("one", s.x.write(0), 2);
        s.tell("offer a b mouth at 10;yes b 0 mouth at 12;");
        s.due("none needed", s.x.write(1), 0);
        s.tell("offer a b hold 20 mouth at 10;yes b 0 but port 1 post at 12 after 5;back a 0 mouth at 15;");
        s.clause("but small;");
        s.clause("hold binds;but small;");
        s.due("one that tells both, not two of less bits", s.x.write(2), 8);
    }

    private static void writtenTheLeastBits() {
        Script s = Script.of("WRITTEN: of as few the least bits", "",
                "offer a b hold 20 mouth at 10;yes b 0 post at 12 after 5;back a 0 mouth at 15;");
        s.clause("risk come;");
        s.clause("yes post sent;");
        s.clause("hold binds;");
        s.clause("yes all sent;");
        s.due("the least", s.x.write(0), 2);
    }

    private static void writtenInTheirOrder() {
        // Needed are both "yes post sent" and "hold binds": two CLAUSES whose order doesn't undo one of them.
        Script s = Script.of("WRITTEN: (in their order)", "yes all read;",
                "offer a b hold 20 mouth at 10;back a 0 mouth at 11;"
                + "yes b 0 post at 12 after 50;");
        s.clause("yes post sent;");
        s.clause("hold binds;yes post come;");
        s.due("the later undoes the earlier", s.x.write(0), -1);
        s.clause("yes post sent;");
        s.due("the earlier is undone by the later", s.x.write(0), 6);
        s.clause("hold binds;");
        s.due("least bits of two", s.x.write(0), 6);
        Script t = Script.of("WRITTEN: told behind each LAW", "lapse 5;silence 9;", "offer a b mouth at 10;");
        t.clause("silence 5;");
        t.due("over the LAW's own", t.x.write(0), 1);
        t.due("the LAW stays", t.x.rule(0, 8), 9);
    }

    private static void writtenInEachComboByEachLaw() {
        Script s = Script.of("WRITTEN: in each COMBO by each LAW", "",
                "offer a b mouth at 10;yes b 0 post at 12 after 0 to 15;back a 0 mouth at 27;");
        s.clause("yes post sent;");
        s.due("the last COMBO needs it", s.x.write(0), 1);
        s.law("yes all read;back read;lapse 0;");
        s.due("the second LAW needs more", s.x.write(0), -1);
        s.clause("lapse 2;");
        s.due("both", s.x.write(0), 3);
        for (int i = 2; i < 7; i++) {
            s.law("yes all sent;");
        }
        s.law("offer read;deed yes;lapse 0;");
        s.due("the eighth, too", s.x.write(0), 3);
        Script t = Script.of("WRITTEN: 1,024 COMBOS", "", "offer a b mouth at 0 to 15;yes b 0 post at 15 after 0 to 15;"
                + "back a 0 mouth at 30 to 33;");
        t.due("1,024 COMBOS", t.x.asked(0, 2), 1024);
        t.due("not in all", t.x.write(0), -1);
        t.clause("yes post sent;");
        t.due("in all", t.x.write(0), 1);
    }

    /** Of each LAW and each COMBO: also of those ahead of the one at which other CLAUSES came to nothing. */
    private static void writtenFromTheFirstOn() {
        Script s = Script.of("WRITTEN: by each LAW, the first, too", "but small;",
                "offer a b hold 20 mouth at 10;back a 0 mouth at 11;"
                + "yes b 0 but port 1 mouth at 12;");
        s.law("hold binds;");
        s.clause("risk come;");
        s.clause("hold binds;");
        s.clause("but small;");
        s.due("two", s.x.write(0), 6);
        s.due("again", s.x.write(0), 6);
        Script t = Script.of("WRITTEN: in each COMBO, the first, too", "lapse 0;",
                "offer a b post at 10 after 0 read 3;"
                + "yes b 0 post at 12 after 0 to 3;");
        t.clause("lapse 3;");
        t.clause("lapse 9;offer read;");
        t.due("none", t.x.write(0), -1);
        t.clause("lapse 9;");
        t.due("the third", t.x.write(0), 4);
        t.due("again", t.x.write(0), 4);
    }

    private static void writtenChangesNothing() {
        Script s = new Script("WRITTEN: the LAWS stay as they are, also for CASES that are given");
        s.tell("offer a b mouth at 1;deed b 0 mouth at 2;");
        for (int i = 1; i < 16; i++) {
            s.tell("offer a b given " + (i - 1) + " mouth at 1;yes b 0 mouth at 2;");
        }
        for (int i = 0; i < 8; i++) {
            s.law(i % 2 == 0 ? "" : "deed yes;");
        }
        s.clause("deed yes;");
        for (int turn = 0; turn < 2; turn++) {
            for (int law = 0; law < 8; law++) {
                for (int number = 3; number < 16; number += 6) {
                    s.due("by LAW " + law, s.x.run(number, law, 0, 2), law % 2 == 0 ? -2 : 2);
                }
            }
            s.due("written", s.x.write(15), 1);
        }
    }

    private static void writtenWithAllSix() {
        Script s = Script.of("WRITTEN: all six CLAUSES", "offer read;no sent;yes all read;",
                "offer a b mouth at 1;deed b 0 mouth at 2;");
        s.tell("offer a b hold 50 given 0 post at 10 after 2 read 20;back a 0 mouth at 13;no b 0 post at 12 after 50;"
                + "yes b 0 but port 1 wire at 14 after 10 read 10;back b 3 mouth at 20;");
        String[] clauses = {"but small;", "yes wire sent;", "hold binds;", "offer come;", "no come;", "deed yes;"};
        for (String one : clauses) {
            s.due("not yet", s.x.write(1), -1);
            s.clause(one);
        }
        s.due("all", s.x.write(1), 63);
        s.due("the last alone", s.x.write(0), 32);
        s.due("as it is, none", s.x.run(1, 0, 0, 0), -2);
        for (int left = 0; left < 6; left++) {
            Script t = Script.of("all but one", "offer read;no sent;yes all read;",
                    "offer a b mouth at 1;deed b 0 mouth at 2;");
            t.tell("offer a b hold 50 given 0 post at 10 after 2 read 20;back a 0 mouth at 13;"
                    + "no b 0 post at 12 after 50;"
                    + "yes b 0 but port 1 wire at 14 after 10 read 10;back b 3 mouth at 20;");
            for (int i = 0; i < 6; i++) {
                t.clause(i == left ? "risk come;" : clauses[i]);
            }
            t.due("without " + clauses[left], t.x.write(1), -1);
        }
        s.tell(TOO_MANY_COMBOS);
        s.due("not LOOKED at", s.x.write(2), -2);
    }
}
