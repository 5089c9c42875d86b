/** The document's Terms, part 1 (texts of CASES): a test of its own for each sentence that names a boundary. */
public final class CaseEdgesTest {
    private static final String ASK = "ask a b mouth at 1;";
    private static final String OFFER = "offer a b mouth at 1;";
    private static final String[] WORDS = {"price", "much", "day", "port", "court"};
    private static final String TOO_MANY_COMBOS = "ask a b post at 0 to 15 after 0 to 15 read 0 to 15;";

    public static void main(String[] args) {
        casesUpTo16();
        atLeastOneSaying();
        atMost12Sayings();
        sayingsAreNumberedFrom0();
        sayingsEndWithASemicolon();
        handsAreAToC();
        twoHandsAreUnlike();
        wordsAreFive();
        toldAgainTheLastHolds();
        numbersOfWordsTo999();
        hoursOfHoldTo1999();
        partsOfAnOfferInOrder();
        givenIsToldAhead();
        givenInMoreIsAheadOfThisOne();
        saidIsAheadOfThisOne();
        saidForYesNoDeed();
        saidForBack();
        saidForSend();
        butIsMadeToWhomTheOfferWasFrom();
        butTellsAtLeastOneWord();
        timesByPostAndWire();
        timesByMouthAndDeed();
        spanNotBelowTheFirst();
        span15AboveAtMost();
        spanBehindAtTo1999();
        spanElseTo999();
        oneToFourDigits();
        tokensAsLongAsTheyGo();
        blanksAreBytes32And10();
        bytesThatBeginNoToken();
        faultIsTheFirstToken();
        faultIsTheLengthIfMoreMustCome();
        textEndsAtItsLength();
        comesAfterAndIsReadBehindThat();
        byMouthAndDeedAtOnce();
        lostNeverComesAndIsNeverRead();
        toldAsOneNumberIsNotAsked();
        askedInOrder();
        combosFirstOneLowest();
        lookedAtWithAtMost1024Combos();
        Script.end("the edges of CASES hold");
    }

    private static void casesUpTo16() {
        Script s = new Script("CASES, up to 16");
        for (int i = 0; i < 16; i++) {
            s.due("CASE " + i, s.tell(ASK), i);
            if (i == 14) {
                s.x.image();
            }
        }
        s.put(ASK);
        String state = s.state();
        s.due("the 17th", s.x.tell(19), -3);
        s.sameState("the 17th", state);
        s.x.back(0);
        s.due("room again", s.x.tell(19), 15);
        s.put(ASK);
        s.due("none again", s.x.tell(19), -3);
        s.due("but more to the last", s.x.more(15, 19), 2);
    }

    private static void atLeastOneSaying() {
        Script s = new Script("with at least one SAYING");
        s.badCase("^");
        s.badCase(" ^");
        s.badCase("\n \n^");
        s.badCase("^;");
        s.due("no CASE", s.x.count(0), 0);
        s.due("one", s.tell(ASK), 0);
        s.due("one", s.x.asked(0, 0), 1);
        s.badMore(0, "^");
        s.badMore(0, "  \n^");
        s.due("still one", s.x.asked(0, 0), 1);
    }

    private static void atMost12Sayings() {
        Script s = new Script("at most 12 SAYINGS (the 13th SAYING's word, too)");
        String twelve = Script.times(ASK, 12);
        s.badCase(twelve + "^" + ASK);
        s.badCase(twelve + " \n ^" + ASK);
        s.badCase(twelve + "^ask");
        s.badCase(twelve + "^;");
        s.badCase(twelve + "^sold");
        s.badCase(twelve + "^7");
        s.badCase(Script.times(ASK, 11) + "ask a b mouth at ^2000;" + ASK);
        s.due("no CASE", s.x.count(0), 0);
        s.due("12", s.tell(twelve + " \n "), 0);
        s.due("12", s.x.asked(0, 0), 12);
        s.due("11", s.tell(Script.times(ASK, 11)), 1);
        s.badMore(1, ASK + "^" + ASK);
        s.due("11", s.x.asked(1, 0), 11);
        s.due("12 in all", s.more(1, ASK), 12);
        s.badMore(1, " ^" + ASK);
        s.badMore(1, "^;");
        s.badMore(1, "^");
        s.due("12", s.x.asked(1, 0), 12);
    }

    private static void sayingsAreNumberedFrom0() {
        Script s = Script.ofCase("SAYINGS, numbered from 0 on", Script.times(ASK, 11) + "ask c a mouth at 1;");
        s.due("-1", s.x.saying(0, -1, 1), -2);
        s.due("0", s.x.saying(0, 0, 1), 0);
        s.due("10", s.x.saying(0, 10, 1), 0);
        s.due("11", s.x.saying(0, 11, 1), 2);
        s.due("12", s.x.saying(0, 12, 1), -2);
    }

    private static void sayingsEndWithASemicolon() {
        Script s = new Script("{SAYING \";\"}");
        s.badCase("ask a b mouth at 1^");
        s.badCase("ask a b mouth at 1 ^" + ASK);
        s.badCase(ASK + "^;");
        s.badCase("^;" + ASK);
        s.badCase("ask a b mouth at 1^,");
        s.badCase("ask a b post at 1 after 1^");
        s.badCase("ask a b post at 1 after 1 lost^");
    }

    private static void handsAreAToC() {
        for (String verb : new String[] {"offer", "ask", "yes", "no", "back", "deed", "send"}) {
            Script s = new Script("HAND: a, b, c");
            for (String hand : new String[] {"d", "z", "ab", "aa", "A", "0", ";", "hand"}) {
                s.badCase(OFFER + verb + " ^" + hand + " 0 mouth at 2;");
            }
        }
        Script s = new Script("HAND: a, b, c");
        for (String hand : new String[] {"d", "bc", "B", "1", ";", "mouth"}) {
            s.badCase("offer a ^" + hand + " mouth at 1;");
            s.badCase("ask a ^" + hand + " mouth at 1;");
        }
    }

    private static void twoHandsAreUnlike() {
        for (int one = 0; one < 3; one++) {
            for (int two = 0; two < 3; two++) {
                Script s = new Script("two HANDS are unlike");
                String first = " " + (char) ('a' + one) + " ";
                String second = (char) ('a' + two) + " mouth at 1;";
                if (one == two) {
                    s.badCase("offer" + first + "^" + second);
                    s.badCase("ask" + first + "^" + second);
                } else {
                    s.due("told", s.tell("offer" + first + second + "ask" + first + second), 0);
                    s.due("HAND", s.x.saying(0, 0, 1), one);
                    s.due("to whom", s.x.saying(0, 0, 2), two);
                    s.due("HAND", s.x.saying(0, 1, 1), one);
                    s.due("to whom", s.x.saying(0, 1, 2), two);
                }
            }
        }
    }

    private static void wordsAreFive() {
        Script s = new Script("WORD: price, much, day, port, court");
        s.badCase("offer a b ^pric 1 mouth at 1;");
        s.badCase("offer a b ^prices 1 mouth at 1;");
        s.badCase("offer a b ^tax 1 mouth at 1;");
        s.badCase("offer a b ^1 mouth at 1;");
        s.badCase("offer a b price ^mouth at 1;");
        s.badCase("offer a b price ^price 1 mouth at 1;");
        s.badCase("offer a b price 1 ^2 mouth at 1;");
        s.badCase(OFFER + "yes b 0 but price 1 ^2 mouth at 1;");
        s.badCase(OFFER + "yes b 0 but price 1 ^tax 2 mouth at 1;");
        s.badCase("ask a b ^price 1 mouth at 1;");
        for (String verb : new String[] {"yes", "no", "deed"}) {
            s.badCase(OFFER + verb + " b 0 ^price 1 mouth at 2;");
        }
        for (int w = 0; w < 5; w++) {
            Script t = Script.ofCase(WORDS[w], "offer a b " + WORDS[w] + " 7 mouth at 1;");
            for (int v = 0; v < 5; v++) {
                t.due("WORD " + v, t.x.saying(0, 0, 10 + v), v == w ? 7 : -1);
            }
        }
    }

    private static void toldAgainTheLastHolds() {
        for (int w = 0; w < 5; w++) {
            String told = WORDS[w] + " 7 " + WORDS[(w + 1) % 5] + " 4 " + WORDS[w] + " 9 " + WORDS[w] + " 8 ";
            Script s = Script.ofCase("WORD, told again: the last one holds", "offer a b " + told
                    + "mouth at 1;yes b 0 but " + told + "mouth at 2;");
            for (int k = 0; k < 2; k++) {
                s.due("told thrice", s.x.saying(0, k, 10 + w), 8);
                s.due("told once", s.x.saying(0, k, 10 + (w + 1) % 5), 4);
                s.due("not told", s.x.saying(0, k, 10 + (w + 2) % 5), -1);
            }
        }
    }

    private static void numbersOfWordsTo999() {
        for (int w = 0; w < 5; w++) {
            for (int number : new int[] {0, 1, 999}) {
                Script s = Script.ofCase("NUMBER: 0 to 999", "offer a b " + WORDS[w] + " " + number
                        + " mouth at 1;yes b 0 but " + WORDS[w] + " " + number + " mouth at 2;");
                s.due("the OFFER's", s.x.saying(0, 0, 10 + w), number);
                s.due("the yes with but's", s.x.saying(0, 1, 10 + w), number);
            }
            Script s = new Script("NUMBER: 0 to 999");
            for (String number : new String[] {"1000", "9999", "10000", "-1", "x", ""}) {
                s.badCase("offer a b " + WORDS[w] + " ^" + number + ";");
                s.badCase(OFFER + "yes b 0 but " + WORDS[w] + " ^" + number + ";");
            }
        }
    }

    private static void hoursOfHoldTo1999() {
        for (int hour : new int[] {0, 1, 1999}) {
            Script s = Script.ofCase("HOUR: 0 to 1,999", "offer a b hold " + hour + " mouth at 1;");
            s.due("hold", s.x.saying(0, 0, 5), hour);
        }
        Script s = new Script("HOUR: 0 to 1,999");
        for (String hour : new String[] {"2000", "9999", "10000", "00000", "-1", "x", ""}) {
            s.badCase("offer a b hold ^" + hour + ";");
        }
    }

    private static void partsOfAnOfferInOrder() {
        Script s = Script.ofCase("{WORD NUMBER} [hold] [given] TIMES", ASK);
        s.due("none of them", s.tell("offer a b mouth at 1;"), 1);
        s.due("given alone", s.tell("offer a b given 0 mouth at 1;"), 2);
        s.due("all of them", s.tell("offer a b day 1 hold 2 given 0 mouth at 1;"), 3);
        s.badCase("offer a b hold 2 ^price 1 mouth at 1;");
        s.badCase("offer a b hold 2 ^hold 2 mouth at 1;");
        s.badCase("offer a b given 0 ^hold 2 mouth at 1;");
        s.badCase("offer a b given 0 ^given 0 mouth at 1;");
        s.badCase("offer a b given 0 ^day 1 mouth at 1;");
        s.badCase("offer a b mouth at 1 ^hold 2;");
        s.badCase("ask a b ^hold 2 mouth at 1;");
        s.badCase("ask a b ^given 0 mouth at 1;");
        s.badCase(OFFER + "yes b 0 ^hold 2 mouth at 1;");
        s.badCase(OFFER + "yes b 0 but day 1 ^given 0 mouth at 1;");
        s.badCase(OFFER + "no b 0 ^but day 1 mouth at 1;");
        s.badCase(OFFER + "deed b 0 ^but day 1 mouth at 1;");
    }

    private static void givenIsToldAhead() {
        Script s = new Script("CASE: one told ahead");
        s.badCase("offer a b given ^0 mouth at 1;");
        for (int i = 0; i < 16; i++) {
            if (i > 0) {
                s.badCase("offer a b given ^" + i + " mouth at 1;");
                s.badCase("offer a b given ^" + (i + 1) + " mouth at 1;");
            }
            String text = i == 0 ? ASK : "offer a b given " + (i - 1) + " mouth at 1;offer a b given 0 mouth at 1;";
            s.due("CASE " + i, s.tell(text), i);
        }
        s.due("the one just ahead", s.x.saying(15, 0, 6), 14);
        s.due("the first", s.x.saying(15, 1, 6), 0);
        Script t = Script.ofCase("CASE: one told ahead", ASK);
        t.badCase("offer a b given ^16 mouth at 1;");
        t.badCase("offer a b given ^9999 mouth at 1;");
        t.badCase("offer a b given ^00000 mouth at 1;");
        t.badCase("offer a b given ^-1 mouth at 1;");
        t.badCase("offer a b given ^mouth at 1;");
        t.due("four digits", t.tell("offer a b given 0000 mouth at 1;"), 1);
    }

    private static void givenInMoreIsAheadOfThisOne() {
        Script s = new Script("CASE: in \"more\" one ahead of this one");
        s.tell(ASK);
        s.tell(ASK);
        s.tell(ASK);
        s.badMore(0, "offer a b given ^0 mouth at 1;");
        s.badMore(0, "offer a b given ^1 mouth at 1;");
        s.badMore(1, "offer a b given ^1 mouth at 1;");
        s.badMore(1, "offer a b given ^2 mouth at 1;");
        s.badMore(2, "offer a b given ^2 mouth at 1;");
        s.due("the one ahead", s.more(1, "offer a b given 0 mouth at 1;"), 2);
        s.due("the one ahead", s.more(2, "offer a b given 1 mouth at 1;"), 2);
        s.due("given", s.x.saying(1, 1, 6), 0);
        s.due("given", s.x.saying(2, 1, 6), 1);
    }

    private static void saidIsAheadOfThisOne() {
        Script s = new Script("SAID: a SAYING ahead of this one in its CASE");
        s.badCase("yes b ^0 mouth at 1;");
        for (String verb : new String[] {"yes b", "no b", "deed b", "back a", "send a"}) {
            s.badCase(OFFER + verb + " ^mouth at 2;");
            s.badCase(OFFER + verb + " 0 ^0 mouth at 2;");
        }
        for (String said : new String[] {"1", "2", "9999", "00000", "-1", "x", ""}) {
            s.badCase(OFFER + "yes b ^" + said + ";" + OFFER);
            s.badCase(OFFER + "no b ^" + said + ";" + OFFER);
            s.badCase(OFFER + "deed b ^" + said + ";" + OFFER);
            s.badCase(OFFER + "back a ^" + said + ";" + OFFER);
            s.badCase(OFFER + "send a ^" + said + ";" + OFFER);
        }
        s.due("no CASE", s.x.count(0), 0);
        s.due("just ahead", s.tell(Script.times(OFFER, 11) + "yes b 10 mouth at 2;"), 0);
        s.due("SAID", s.x.saying(0, 11, 3), 10);
        s.badCase(Script.times(OFFER, 11) + "yes b ^11 mouth at 2;");
        s.due("an OFFER of another CASE is none", s.tell(ASK), 1);
        s.badMore(1, "yes b ^0 mouth at 2;");
        s.due("one told earlier", s.tell(OFFER), 2);
        s.due("one told earlier", s.more(2, "yes b 0 mouth at 2;"), 2);
        s.badMore(2, "yes b ^2 mouth at 2;");
        s.due("four digits", s.more(2, "yes b 0000 mouth at 2;"), 3);
        s.due("SAID", s.x.saying(2, 2, 3), 0);
    }

    /** SAYINGS 0 to 7: one of each what, those of yes with but made to a. */
    private static final String EACH = "offer a b mouth at 1;ask a b mouth at 1;yes b 0 mouth at 1;"
            + "yes b 0 but day 1 mouth at 1;no b 0 mouth at 1;back a 0 mouth at 1;deed b 0 mouth at 1;"
            + "send a 0 mouth at 1;";

    /** Tells each HAND's SAYING of a verb on each of EACH; fits: which of them go (HAND * 8 + SAID). */
    private static void checkSaid(String name, String verb, int... fits) {
        for (int hand = 0; hand < 3; hand++) {
            Script s = new Script(name);
            for (int said = 0; said < 8; said++) {
                boolean fit = false;
                for (int one : fits) {
                    fit |= one == hand * 8 + said;
                }
                String head = EACH + verb + " " + (char) ('a' + hand) + " ";
                if (fit) {
                    Script t = Script.ofCase(name, head + said + " mouth at 2;");
                    t.due("SAID", t.x.saying(0, 8, 3), said);
                    t.due("HAND", t.x.saying(0, 8, 1), hand);
                } else {
                    s.badCase(head + "^" + said + " mouth at 2;");
                }
            }
        }
    }

    private static void saidForYesNoDeed() {
        String name = "SAID: for yes, no, deed an OFFER made to that HAND";
        checkSaid(name, "yes", 8, 3);
        checkSaid(name, "no", 8, 3);
        checkSaid(name, "deed", 8, 3);
    }

    private static void saidForBack() {
        checkSaid("SAID: for back an \"offer\" or \"yes\" (with \"but\" or not) of that HAND", "back", 0, 8 + 2, 8 + 3);
    }

    private static void saidForSend() {
        checkSaid("SAID: for send an OFFER of that HAND", "send", 0, 8 + 3);
    }

    private static void butIsMadeToWhomTheOfferWasFrom() {
        Script s = Script.ofCase("A \"yes\" with \"but\" is made to whom the OFFER was from", "offer c b mouth at 1;"
                + "yes b 0 but day 1 mouth at 2;yes c 1 but day 2 mouth at 3;yes b 2 mouth at 4;");
        s.due("to c", s.x.saying(0, 1, 2), 2);
        s.due("to b", s.x.saying(0, 2, 2), 1);
        s.due("a plain yes", s.x.saying(0, 3, 2), -1);
        s.badMore(0, "no a ^1 mouth at 5;");
        s.badMore(0, "no c ^2 mouth at 5;");
        s.due("c answers", s.more(0, "no c 1 mouth at 5;"), 5);
    }

    private static void butTellsAtLeastOneWord() {
        Script s = new Script("\"but\" WORD NUMBER {WORD NUMBER}");
        s.badCase(OFFER + "yes b 0 but ^mouth at 2;");
        s.badCase(OFFER + "yes b 0 but ^");
        s.badCase(OFFER + "yes b 0 but ^but day 1 mouth at 2;");
        s.badCase(OFFER + "yes b 0 but day ^");
        s.badCase(OFFER + "yes b 0 but day 1 ^but port 1 mouth at 2;");
        s.due("one", s.tell(OFFER + "yes b 0 but day 1 mouth at 2;"), 0);
        s.due("what", s.x.saying(0, 1, 0), 3);
        s.due("all", s.tell(OFFER + "yes b 0 but price 1 much 2 day 3 port 4 court 5 mouth at 2;"), 1);
        s.due("the last", s.x.saying(1, 1, 14), 5);
    }

    private static void timesByPostAndWire() {
        for (String way : new String[] {"post", "wire"}) {
            Script s = new Script("(\"post\" | \"wire\") \"at\" SPAN \"after\" SPAN [\"read\" SPAN] [\"lost\"]");
            String head = "ask a b " + way;
            s.badCase(head + " ^1;");
            s.badCase(head + " ^after 1 at 1;");
            s.badCase(head + " at 1^;");
            s.badCase(head + " at 1 ^read 1;");
            s.badCase(head + " at 1 ^lost;");
            s.badCase(head + " at 1 after ^;");
            s.badCase(head + " at 1 after 1 read ^;");
            s.badCase(head + " at 1 after 1 read ^lost;");
            s.badCase(head + " at 1 after 1 read 1 ^read 1;");
            s.badCase(head + " at 1 after 1 lost ^read 1;");
            s.badCase(head + " at 1 after 1 lost ^lost;");
            s.badCase(head + " at 1 after 1 ^after 1;");
            s.due("all", s.tell(head + " at 1 after 1 read 1 lost;"), 0);
            s.due("no read", s.tell(head + " at 1 after 1 lost;"), 1);
            s.due("no lost", s.tell(head + " at 1 after 1 read 1;"), 2);
            s.due("neither", s.tell(head + " at 1 after 1;"), 3);
            s.due("WAY", s.x.saying(3, 0, 4), way.equals("post") ? 0 : 1);
        }
    }

    private static void timesByMouthAndDeed() {
        for (String way : new String[] {"mouth", "deed"}) {
            Script s = new Script("(\"mouth\" | \"deed\") \"at\" SPAN");
            String head = "ask a b " + way;
            s.badCase(head + " ^1;");
            s.badCase(head + " at ^;");
            s.badCase(head + " at 1 ^after 1;");
            s.badCase(head + " at 1 ^read 1;");
            s.badCase(head + " at 1 ^lost;");
            s.badCase(head + " at 1 ^2;");
            s.due("told", s.tell(head + " at 1 to 2;"), 0);
            s.due("WAY", s.x.saying(0, 0, 4), way.equals("mouth") ? 2 : 3);
        }
        Script s = new Script("TIMES");
        s.badCase("ask a b ^at 1;");
        s.badCase("ask a b ^fax at 1;");
        s.badCase("ask a b ^posts at 1;");
        s.badCase("ask a b ^;");
    }

    private static void spanNotBelowTheFirst() {
        Script s = new Script("SPAN: the second one not below the first");
        s.badCase("ask a b mouth at 5 to ^4;");
        s.badCase("ask a b mouth at 1999 to ^0;");
        s.badCase("ask a b post at 5 after 5 to ^4;");
        s.badCase("ask a b post at 5 after 5 read 5 to ^4;");
        s.badCase("ask a b mouth at 5 to ^;");
        s.badCase("ask a b mouth at 5 to ^to 6;");
        s.badCase("ask a b mouth at 5 to 6 ^to 7;");
        s.due("the first itself", s.tell("ask a b post at 5 to 5 after 6 to 6 read 7 to 7;"), 0);
        s.due("one COMBO", s.x.asked(0, 2), 1);
        s.due("its hour", s.x.hour(0, 0, 0, 2), 18);
        s.due("the next", s.tell("ask a b mouth at 5 to 6;"), 1);
        s.due("two COMBOS", s.x.asked(1, 2), 2);
    }

    private static void span15AboveAtMost() {
        Script s = new Script("SPAN: the second one 15 above the first at most");
        s.badCase("ask a b mouth at 5 to ^21;");
        s.badCase("ask a b mouth at 0 to ^16;");
        s.badCase("ask a b mouth at 1983 to ^1999;");
        s.badCase("ask a b post at 5 after 5 to ^21;");
        s.badCase("ask a b post at 5 after 5 read 5 to ^21;");
        s.due("at", s.tell("ask a b mouth at 1984 to 1999;"), 0);
        s.due("after", s.tell("ask a b post at 5 after 5 to 20;"), 1);
        s.due("read", s.tell("ask a b post at 5 after 5 read 5 to 20;"), 2);
        for (int number = 0; number < 3; number++) {
            s.due("16 COMBOS", s.x.asked(number, 2), 16);
        }
        s.due("the last hour", s.x.hour(0, 15, 0, 0), 1999);
        s.due("the last hour", s.x.hour(1, 15, 0, 1), 25);
        s.due("the last hour", s.x.hour(2, 15, 0, 2), 30);
    }

    private static void spanBehindAtTo1999() {
        Script s = new Script("SPAN: behind \"at\" 0 to 1,999");
        for (String way : new String[] {"post", "wire", "mouth", "deed"}) {
            s.badCase("ask a b " + way + " at ^2000;");
            s.badCase("ask a b " + way + " at ^9999;");
            s.badCase("ask a b " + way + " at 1990 to ^2000;");
            s.badCase("ask a b " + way + " at 1999 to ^2000;");
        }
        s.due("0", s.tell("ask a b mouth at 0;"), 0);
        s.due("0", s.x.hour(0, 0, 0, 0), 0);
        s.due("1,999", s.tell("ask a b mouth at 1999;"), 1);
        s.due("1,999", s.x.hour(1, 0, 0, 0), 1999);
        s.due("to 1,999", s.tell("ask a b mouth at 1998 to 1999;"), 2);
        s.due("to 1,999", s.x.hour(2, 1, 0, 0), 1999);
    }

    private static void spanElseTo999() {
        Script s = new Script("SPAN: else 0 to 999");
        s.badCase("ask a b post at 5 after ^1000;");
        s.badCase("ask a b post at 5 after 990 to ^1000;");
        s.badCase("ask a b wire at 5 after 999 to ^1000;");
        s.badCase("ask a b post at 5 after 5 read ^1000;");
        s.badCase("ask a b wire at 5 after 5 read 990 to ^1000;");
        s.due("0", s.tell("ask a b post at 5 after 0 read 0;"), 0);
        s.due("0", s.x.hour(0, 0, 0, 2), 5);
        s.due("999", s.tell("ask a b post at 5 after 999 read 999;"), 1);
        s.due("999", s.x.hour(1, 0, 0, 1), 1004);
        s.due("999", s.x.hour(1, 0, 0, 2), 2003);
        s.due("to 999", s.tell("ask a b post at 5 after 984 to 999 read 984 to 999;"), 2);
        s.due("to 999", s.x.hour(2, 255, 0, 2), 2003);
    }

    private static void oneToFourDigits() {
        Script s = new Script("Each number of one to four digits");
        s.due("four", s.tell("offer a b price 0009 hold 0012 post at 0010 to 0011 after 0002 read 0003;"
                + "yes b 0000 but day 0999 mouth at 1999;"), 0);
        s.due("price", s.x.saying(0, 0, 10), 9);
        s.due("hold", s.x.saying(0, 0, 5), 12);
        s.due("read", s.x.hour(0, 1, 0, 2), 16);
        s.due("day", s.x.saying(0, 1, 12), 999);
        s.badCase("offer a b price ^00009 mouth at 1;");
        s.badCase("offer a b hold ^00012 mouth at 1;");
        s.badCase("offer a b given ^00000 mouth at 1;");
        s.badCase("offer a b post at ^00010 after 1;");
        s.badCase("offer a b post at 1 to ^00010 after 1;");
        s.badCase("offer a b post at 1 after ^00001;");
        s.badCase("offer a b post at 1 after 1 read ^00001;");
        s.badCase(OFFER + "yes b ^00000 mouth at 1;");
        s.badCase("offer a b mouth at ^" + Script.times("0", 40) + ";");
        // Numbers that wrap around to what would be so are not.
        s.badCase("offer a b mouth at ^4294967297;");
        s.badCase("offer a b mouth at ^18446744073709551617;");
    }

    private static void tokensAsLongAsTheyGo() {
        Script s = new Script("Tokens as long as they go");
        s.badCase("^aska b mouth at 1;");
        s.badCase("ask ^ab mouth at 1;");
        s.badCase("ask a ^bmouth at 1;");
        s.badCase("ask a b ^mouthat 1;");
        s.badCase("ask a b mouth at 1 ^2;");
        s.badCase("ask a b mouth at ^19999;");
        s.badCase("ask a b post at 1 after 1 ^readlost;");
        s.badCase("^askask a b mouth at 1;");
        s.due("words and digits need no blank", s.tell("offer a b price1much2hold3post at4to5after6read7lost;"), 0);
        s.due("much", s.x.saying(0, 0, 11), 2);
        s.due("COMBOS", s.x.asked(0, 2), 4);
        s.due("signs need none", s.tell("ask a b mouth at 1;ask b c mouth at 2;"), 1);
    }

    private static void blanksAreBytes32And10() {
        Script s = new Script("between them blanks (bytes 32 and 10)");
        s.due("both", s.tell("\n\n offer\na \n b  price\n\n9 mouth \nat\n1 \n to  2 \n;\n \n"), 0);
        s.due("price", s.x.saying(0, 0, 10), 9);
        s.due("COMBOS", s.x.asked(0, 2), 2);
        s.badCase("ask a b mouth at 1 ^2;");
        s.badCase("^as k a b mouth at 1;");
        s.badCase("^as\nk a b mouth at 1;");
        s.badCase("ask a b mouth at 1 ^0;");
    }

    private static void bytesThatBeginNoToken() {
        for (int sign = 0; sign < 256; sign++) {
            boolean letter = sign >= 'a' && sign <= 'z';
            boolean digit = sign >= '0' && sign <= '9';
            if (!letter && !digit && sign != ' ' && sign != '\n' && sign != ';') {
                Script one = new Script("(or byte that begins none): " + sign);
                one.tellFault((char) sign + ASK, 0);
                one.tellFault("ask" + (char) sign + "a b mouth at 1;", 3);
                one.tellFault("ask a b mouth at 1" + (char) sign + ";", 18);
                one.tellFault(ASK + (char) sign, 19);
                one.lawFault("no" + (char) sign + "sent;", 2);
                one.lawFault("" + (char) sign, 0);
            }
        }
    }

    private static void faultIsTheFirstToken() {
        Script s = new Script("FAULT: the place of the first byte of the first token with which no such text goes on");
        s.badCase("ask a ^a mouth at 2000;");
        s.badCase("ask a b mouth at ^2000;ask a a");
        s.badCase(ASK + "  ^tell a b;~");
        s.badCase("^~ask a b");
        s.badCase("offer  a\n\n^a mouth at 1;");
        s.badCase(OFFER + "yes  b   ^1 mouth at 2;");
        s.badCase(OFFER + "yes b 0 mouth at 2;no b 0 mouth at 3 to ^b;");
        s.badCase("^off");
        s.badCase("ask a b mouth ^a");
    }

    private static void faultIsTheLengthIfMoreMustCome() {
        Script s = new Script("FAULT: the text's length, if more must come");
        String text = "offer a b price 1 hold 2 post at 3 to 4 after 5 to 6 read 7 to 8 lost;";
        s.due("whole", s.tell(text), 0);
        for (int length = 0; length < text.length(); length++) {
            boolean afterToken = length == 0 || text.charAt(length) == ' ' || text.charAt(length - 1) == ' '
                    || text.charAt(length) == ';' || Character.isDigit(text.charAt(length - 1));
            if (afterToken) {
                s.tellFault(text.substring(0, length), length);
                s.tellFault(text.substring(0, length) + "\n ", length + 2);
            }
        }
        s.badMore(0, "yes b 0 but day 1 mouth at 2^");
        s.badMore(0, "back a 0 mouth at 2;yes^");
        s.badMore(0, "send a 0 ^");
    }

    private static void textEndsAtItsLength() {
        Script s = new Script("the first n bytes of the tape");
        s.put("ask a b mouth at 12;");
        s.due("cut ahead of the sign", s.x.tell(19), -1);
        s.due("its length", s.x.fault(), 19);
        s.put("ask a b mouth at 12;");
        s.due("cut in a number", s.x.tell(18), -1);
        s.due("its length", s.x.fault(), 18);
        s.put("ask a b mouth at 12;");
        s.due("cut in a word", s.x.tell(11), -1);
        s.due("the word's place", s.x.fault(), 8);
        s.put("ask a b mouth at 12;~");
        s.due("what is behind doesn't count", s.x.tell(20), 0);
        s.due("no FAULT", s.x.fault(), -1);
        s.due("but is gone", s.x.count(3), 0);
    }

    private static void comesAfterAndIsReadBehindThat() {
        Script s = Script.ofCase("it comes so many hours \"after\" and is read so many behind that",
                "ask a b post at 1999 "
                + "after 999 read 999;ask a b wire at 0 after 0 read 0;ask a b post at 5 after 6;");
        int[][] due = {{1999, 2998, 3997}, {0, 0, 0}, {5, 11, 11}};
        for (int k = 0; k < 3; k++) {
            for (int what = 0; what < 3; what++) {
                s.due("hour(0, 0, " + k + ", " + what + ")", s.x.hour(0, 0, k, what), due[k][what]);
            }
        }
    }

    private static void byMouthAndDeedAtOnce() {
        Script s = Script.ofCase("by mouth, deed at once", "ask a b mouth at 1998 to 1999;ask a b deed at 0;");
        for (int what = 0; what < 3; what++) {
            s.due("mouth", s.x.hour(0, 0, 0, what), 1998);
            s.due("mouth", s.x.hour(0, 1, 0, what), 1999);
            s.due("deed", s.x.hour(0, 1, 1, what), 0);
        }
    }

    private static void lostNeverComesAndIsNeverRead() {
        Script s = Script.ofCase("lost: then it never comes and is never read", "ask a b post at 5 after 1 read 1 lost;"
                + "ask a b wire at 6 after 1 lost;");
        int[][] due = {{5, 6, 7, 6, 7, 7}, {5, -1, -1, 6, 7, 7}, {5, 6, 7, 6, -1, -1}, {5, -1, -1, 6, -1, -1}};
        for (int combo = 0; combo < 4; combo++) {
            for (int i = 0; i < 6; i++) {
                s.due("hour(0, " + combo + ", " + i / 3 + ", " + i % 3 + ")", s.x.hour(0, combo, i / 3, i % 3),
                        due[combo][i]);
            }
        }
    }

    private static void toldAsOneNumberIsNotAsked() {
        Script s = new Script("What isn't told as one number (and each \"lost\") is OPEN TO ASK");
        String[] texts = {"post at 1 after 1 read 1", "post at 1 to 2 after 1 read 1", "post at 1 after 1 to 2 read 1",
            "post at 1 after 1 read 1 to 2", "post at 1 after 1 read 1 lost",
            "post at 1 to 2 after 1 to 2 read 1 to 2 lost", "post at 1 to 1 after 1 read 1"};
        int[] asked = {0, 1, 1, 1, 1, 4, 1};
        int[] combos = {1, 2, 2, 2, 2, 16, 1};
        for (int i = 0; i < texts.length; i++) {
            s.due(texts[i], s.tell("ask a b " + texts[i] + ";"), i);
            s.due(texts[i] + ": ASKED", s.x.asked(i, 1), asked[i]);
            s.due(texts[i] + ": COMBOS", s.x.asked(i, 2), combos[i]);
        }
    }

    private static void askedInOrder() {
        // Which of them a bargain hangs on shows each one's bit, and so its place in the order.
        String offer = "offer a b post at 1 to 2 after 1 to 2 read 1 to 2 lost;";
        Script s = Script.of("ASKED in order: by SAYINGS, of each its \"at\", \"after\", \"read\", \"lost\"",
                "offer read;",
                "ask a b post at 1 to 3 after 1 lost;" + offer.replace("lost", "") + "yes b 1 mouth at 5 to 6;");
        s.due("6 ASKED ones", s.x.asked(0, 1), 6);
        s.due("not the ask's, but all of the others", s.x.hang(0, 0), 4 | 8 | 16 | 32);
        Script t = Script.of("ASKED in order", "offer read;", offer + "yes b 0 mouth at 100;");
        t.due("on lost alone", t.x.hang(0, 0), 8);
        Script u = Script.of("ASKED in order", "", offer + "yes b 0 mouth at 3;");
        u.due("on at, after and lost", u.x.hang(0, 0), 1 | 2 | 8);
    }

    private static void combosFirstOneLowest() {
        Script s = Script.ofCase("A COMBO: of each ASKED one its how-manyth, the first one lowest",
                "ask a b post at 10 to 11 "
                + "after 100 to 102 read 20 to 23 lost;ask b c mouth at 7 to 11;ask b c wire at 0 after 0 lost;");
        s.due("COMBOS", s.x.asked(0, 2), 2 * 3 * 4 * 2 * 5 * 2);
        int combo = 0;
        for (int gone = 0; gone < 2; gone++) {
            for (int mouth = 7; mouth <= 11; mouth++) {
                for (int lost = 0; lost < 2; lost++) {
                    for (int i = 0; i < 24; i++) {
                        int sent = 10 + i % 2;
                        int come = lost == 1 ? -1 : sent + 100 + i / 2 % 3;
                        int read = lost == 1 ? -1 : come + 20 + i / 6;
                        if (i % 11 == 0 || i == 23) {
                            s.due("sent", s.x.hour(0, combo, 0, 0), sent);
                            s.due("come", s.x.hour(0, combo, 0, 1), come);
                            s.due("read", s.x.hour(0, combo, 0, 2), read);
                            s.due("mouth", s.x.hour(0, combo, 1, 0), mouth);
                            s.due("gone", s.x.hour(0, combo, 2, 2), gone == 1 ? -1 : 0);
                        }
                        combo++;
                    }
                }
            }
        }
        s.due("no COMBO behind the last", s.x.hour(0, combo, 0, 0), -2);
        s.due("no COMBO ahead of 0", s.x.hour(0, -1, 0, 0), -2);
        s.due("no wrap-around", s.x.hour(0, Integer.MIN_VALUE, 0, 0), -2);
        s.due("no wrap-around", s.x.hour(0, Integer.MAX_VALUE, 0, 0), -2);
    }

    private static void lookedAtWithAtMost1024Combos() {
        Script s = new Script("A CASE is LOOKED at, if there are at most 1,024 COMBOS");
        String[] texts = {"ask a b post at 0 to 15 after 0 to 15 read 0 to 3;",
            "ask a b post at 0 to 2 after 0 to 6 read 0 to 6;ask a b mouth at 0 to 6;",
            "ask a b post at 0 to 12 after 0 to 12 read 0 to 5;", TOO_MANY_COMBOS,
            Script.times("ask a b post at 1 after 1 lost;", 10), Script.times("ask a b post at 1 after 1 lost;", 11)};
        int[] combos = {1024, -1, 1014, -1, 1024, -1};
        for (int i = 0; i < texts.length; i++) {
            s.due("told", s.tell(texts[i]), i);
            s.due("COMBOS of " + texts[i], s.x.asked(i, 2), combos[i]);
            s.due("LOOKED at: " + texts[i], s.x.hour(i, 0, 0, 0),
                    combos[i] == -1 ? -2 : texts[i].contains("at 0") ? 0 : 1);
        }
        s.due("the last of 1,024", s.x.hour(0, 1023, 0, 2), 15 + 15 + 3);
        s.due("behind it", s.x.hour(0, 1024, 0, 2), -2);
        s.due("more makes too many", s.more(0, "ask a b post at 1 after 1 lost;"), 2);
        s.due("too many", s.x.asked(0, 2), -1);
        s.due("too many", s.x.hour(0, 0, 0, 2), -2);
        // 2 to the 32nd and beyond: a product of ints would wrap around to 0, or to 1,024 and less.
        for (int many = 7; many <= 12; many++) {
            Script t = Script.ofCase("COMBOS beyond an int", Script.times("ask a b post at 0 to 15 after 0 to 15;",
                    many));
            t.due("not LOOKED at", t.x.asked(0, 2), -1);
            t.due("ASKED all the same", t.x.asked(0, 1), 2 * many);
        }
        Script u = Script.ofCase("COMBOS beyond a long",
                Script.times("ask a b post at 0 to 15 after 0 to 15 read 0 to 15 lost;", 12));
        u.due("not LOOKED at", u.x.asked(0, 2), -1);
    }
}
