/** Each promise of the document: ordinary inputs, the edges that it names, wrong inputs. */
public final class PromisesTest {
    private static final String ASK = "ask a b mouth at 1;";
    private static final String OFFER = "offer a b price 9 post at 10 after 20;";

    public static void main(String[] args) {
        promise1NewObject();
        promise2Feed();
        promise3Tell();
        promise3TellFaults();
        promise4More();
        promise5Law();
        promise6Clause();
        promise7Fault();
        promise8Saying();
        promise9Asked();
        promise10Hour();
        promise11Rule();
        promise12Run();
        promise12RunSmall();
        promise12RunSilence();
        promise13Open();
        promise14Binds();
        promise15Sure();
        promise16Hang();
        promise17Bears();
        promise18Judge();
        promise19Apart();
        promise20Part();
        promise21Write();
        promise22Does();
        promise23Can();
        promise24Until();
        promise25Lost();
        promise26Wired();
        promise27And28Images();
        promise29Count();
        noCallThrows();
        Script.end("all promises hold");
    }

    private static void promise1NewObject() {
        Script s = new Script("promise 1");
        for (int what = 0; what <= 5; what++) {
            s.due("count(" + what + ")", s.x.count(what), 0);
        }
        s.due("fault", s.x.fault(), -1);
        s.due("asked", s.x.asked(0, 0), -2);
        s.due("rule", s.x.rule(0, 0), -2);
        s.due("part", s.x.part(0, 0), -2);
        s.due("NONE", CrossingWords.NONE, -1);
    }

    private static void promise2Feed() {
        Script s = new Script("promise 2");
        for (int i = 1; i <= 45; i++) {
            s.due("feed " + i, s.x.feed(0x20202020, 0x20202020, 0x0a0a0a0a, 0x20202020, 0x20202020), 20 * i);
        }
        s.due("feed beyond 900", s.x.feed(1, 2, 3, 4, 5), -1);
        s.due("bytes stay", s.x.count(3), 900);
        s.due("law of 900 blanks", s.x.law(900), 0);
        s.due("tape is empty", s.x.count(3), 0);
        s.due("feed anew", s.x.feed(-1, 0, 0x80000000, 0x7fffffff, 5), 20);
        // The highest byte comes first.
        Script t = new Script("promise 2");
        t.x.feed(('n' << 24) | ('o' << 16) | (' ' << 8) | 's', ('e' << 24) | ('n' << 16) | ('t' << 8) | ';', 0, 0, 0);
        t.due("law", t.x.law(8), 0);
        t.due("no sent", t.x.rule(0, 5), 0);
    }

    private static void promise3Tell() {
        Script s = new Script("promise 3");
        s.put(ASK + ASK);
        s.due("tell(-1)", s.x.tell(-1), -2);
        s.due("tell(41)", s.x.tell(41), -2);
        s.due("nothing done", s.x.count(3), 40);
        s.due("the first n bytes alone", s.x.tell(19), 0);
        s.due("tape is empty", s.x.count(3), 0);
        s.due("one SAYING", s.x.asked(0, 0), 1);
        s.due("tokens without blanks", s.tell("offer a b price1much2mouth at3;"), 1);
        s.due("blanks around", s.tell(" \n ask\na\nb  mouth at 1 ; \n"), 2);
        s.due("0001", s.tell("ask a b mouth at 0001;"), 3);
        s.due("12 SAYINGS", s.tell(Script.times(ASK, 12)), 4);
        for (int i = 5; i < 16; i++) {
            s.due("tell " + i, s.tell(ASK), i);
        }
        s.put(ASK);
        s.due("-2 ahead of -3", s.x.tell(21), -2);
        s.due("the 17th", s.x.tell(19), -3);
        s.due("nothing done", s.x.count(3), 20);
        s.due("16 CASES", s.x.count(0), 16);
    }

    private static void promise3TellFaults() {
        Script s = new Script("promise 3, faults");
        s.tellFault("", 0);
        s.tellFault("  ", 2);
        s.tellFault(";", 0);
        s.tellFault("offers a b", 0);
        s.tellFault("Offer a b", 0);
        s.tellFault("off", 0);
        s.tellFault("offer a", 7);
        s.tellFault("offer a  ", 9);
        s.tellFault("offer a a mouth at 1;", 8);
        s.tellFault("ask b b mouth at 1;", 6);
        s.tellFault("offer d b mouth at 1;", 6);
        s.tellFault("offer ab mouth at 1;", 6);
        s.tellFault("offer a bz mouth at 1;", 8);
        s.tellFault("offer a b{mouth at 1;", 9);
        s.tellFault("offer a b hold 2000 mouth at 1;", 15);
        s.tellFault("offer a b hold 5 price 1 mouth at 1;", 17);
        s.tellFault("offer a b given 0 hold 5 mouth at 1;", 16);
        s.tellFault("offer a b price 1000 mouth at 1;", 16);
        s.tellFault("offer a b price 00001 mouth at 1;", 16);
        s.tellFault("offer a b price x mouth at 1;", 16);
        s.tellFault("offer a b mouth at 1999 to 2000;", 27);
        s.tellFault("offer a b mouth at 5 to 21;", 24);
        s.tellFault("offer a b mouth at 5 to 4;", 24);
        s.tellFault("offer a b mouth at 5 to ;", 24);
        s.tellFault("offer a b mouth at 1 after 1;", 21);
        s.tellFault("offer a b deed at 1 lost;", 20);
        s.tellFault("offer a b post at 1 lost;", 20);
        s.tellFault("offer a b post at 1 after 1000;", 26);
        s.tellFault("offer a b post at 1 after 1 read 1000;", 33);
        s.tellFault("offer a b post at 1 after 1 lost read 1;", 33);
        s.tellFault("offer a b post at 1 after 1 lost lost;", 33);
        s.tellFault("ask a b price 1 mouth at 1;", 8);
        s.tellFault("offer a b mouth at 1;yes b 1 mouth at 2;", 27);
        s.tellFault("offer a b mouth at 1;yes c 0 mouth at 2;", 27);
        s.tellFault("offer a b mouth at 1;yes b 00000 mouth at 2;", 27);
        s.tellFault("offer a b mouth at 1;no a 0 mouth at 2;", 26);
        s.tellFault("offer a b mouth at 1;deed a 0 mouth at 2;", 28);
        s.tellFault("offer a b mouth at 1;send b 0 mouth at 2;", 28);
        s.tellFault("offer a b mouth at 1;back b 0 mouth at 2;", 28);
        s.tellFault("offer a b mouth at 1;yes b 0 but ;", 33);
        s.tellFault("offer a b mouth at 1;yes b 0 but price 1 hold 3 mouth at 2;", 41);
        s.tellFault("offer a b mouth at 1;yes b 0 mouth at 2;yes a 1 mouth at 3;", 46);
        s.tellFault("offer a b mouth at 1;no b 0 mouth at 2;back b 1 mouth at 3;", 46);
        s.tellFault("ask a b mouth at 1;yes b 0 mouth at 2;", 25);
        s.tellFault(ASK + "~", 19);
        s.tellFault("ask a b mouth at 1\t;", 18);
        s.tellFault(Script.times(ASK, 13), 228);
        s.tellFault(Script.times(ASK, 12) + "9", 228);
        s.due("no CASE", s.x.count(0), 0);
        s.due("all edges hold", s.tell("offer a b price 999 court 0 hold 1999 post at 1984 to 1999 after 984 to 999 "
                + "read 999 lost;"), 0);
        s.tellFault("offer a b given 1 mouth at 1;", 16);
        s.due("given", s.tell("offer a b given 0 mouth at 1;"), 1);
        s.due("SAID", s.tell("offer a b mouth at 1;yes b 0 but day 1 mouth at 2;yes a 1 mouth at 3;back a 2 mouth at 4;"
                + "send b 1 mouth at 5;deed a 1 mouth at 6;back b 1 mouth at 7;no a 1 mouth at 8;send a 0 mouth at 9;"), 2);
    }

    private static void promise4More() {
        Script s = new Script("promise 4");
        s.tell(ASK);
        s.tell(OFFER);
        s.due("more", s.more(1, "yes b 0 post at 32 after 20;"), 2);
        s.due("no fault", s.x.fault(), -1);
        s.due("SAYINGS in all", s.x.count(4), 3);
        s.due("SAID", s.x.saying(1, 1, 3), 0);
        s.due("a fault", s.more(1, "no b 0 mouth at 3;yes b 7 mouth at 4;"), -1);
        s.due("its place is in the text", s.x.fault(), 24);
        s.due("as it was", s.x.asked(1, 0), 2);
        s.put(ASK);
        s.due("no such CASE", s.x.more(2, 19), -2);
        s.due("no such CASE", s.x.more(-1, 19), -2);
        s.due("n too great", s.x.more(0, 21), -2);
        s.due("n below 0", s.x.more(0, -1), -2);
        s.due("nothing done", s.x.count(3), 20);
        s.due("more", s.x.more(0, 19), 2);
        s.due("given itself", s.more(1, "offer a b given 1 mouth at 1;"), -1);
        s.due("place", s.x.fault(), 16);
        s.due("given one ahead", s.more(1, "offer a b given 0 mouth at 1;"), 3);
        s.due("given none ahead", s.more(0, "offer a b given 0 mouth at 1;"), -1);
        s.due("the 13th", s.more(1, Script.times(ASK, 10)), -1);
        s.due("place of the 13th", s.x.fault(), 171);
        s.due("as it was", s.x.asked(1, 0), 3);
        s.due("no SAYING found", s.x.more(1, 0), -1);
        s.due("more must come", s.x.fault(), 0);
        s.due("as it was", s.x.asked(1, 0), 3);
        s.due("blanks alone", s.more(1, " \n "), -1);
        s.due("more must come behind them", s.x.fault(), 3);
        s.due("the tape is empty", s.x.count(3), 0);
        s.due("12 in all", s.more(1, Script.times(ASK, 9)), 12);
        s.due("no SAYING found behind 12", s.x.more(1, 0), -1);
        s.due("its place", s.x.fault(), 0);
        s.due("the 13th", s.more(1, " " + ASK), -1);
        s.due("place of the 13th", s.x.fault(), 1);
    }

    private static void promise5Law() {
        Script s = new Script("promise 5");
        s.lawFault(";", 0);
        s.lawFault("yes", 3);
        s.lawFault("yes deed come;", 4);
        s.lawFault("yes all 5;", 8);
        s.lawFault("offer post;", 6);
        s.lawFault("ask come;", 0);
        s.lawFault("lapse 1000;", 6);
        s.lawFault("silence 1000;", 8);
        s.lawFault("silence;", 7);
        s.lawFault("hold bind;", 5);
        s.lawFault("form some;", 5);
        s.lawFault("deed no;", 5);
        s.lawFault("risk read;", 5);
        s.lawFault("no sent", 7);
        s.lawFault("no sent;no", 10);
        s.lawFault(Script.times("no sent;", 21), 160);
        s.due("no LAW", s.x.count(1), 0);
        s.put("no sent;");
        s.due("n below 0", s.x.law(-1), -2);
        s.due("n too great", s.x.law(21), -2);
        s.due("nothing done", s.x.count(3), 20);
        s.due("first", s.x.law(0), 0);
        s.due("20 RULES", s.law(Script.times("no sent;", 20)), 1);
        for (int i = 2; i < 8; i++) {
            s.due("law " + i, s.law("lapse 999;silence 0;"), i);
        }
        s.put("no sent;");
        s.due("-2 ahead of -3", s.x.law(21), -2);
        s.due("the ninth", s.x.law(8), -3);
        s.due("nothing done", s.x.count(3), 20);
    }

    private static void promise6Clause() {
        Script s = new Script("promise 6");
        s.due("no RULE", s.clause("  "), -1);
        s.due("place", s.x.fault(), 2);
        s.due("no RULE", s.x.clause(0), -1);
        s.due("place", s.x.fault(), 0);
        s.due("21 RULES", s.clause(Script.times("no sent;", 21)), -1);
        s.due("place", s.x.fault(), 160);
        s.due("n below 0", s.x.clause(-1), -2);
        s.due("n too great", s.x.clause(1), -2);
        for (int i = 0; i < 6; i++) {
            s.due("clause " + i, s.clause(Script.times("no sent;", 20)), i);
        }
        s.due("-2 ahead of -3", s.x.clause(1), -2);
        s.due("the seventh", s.x.clause(0), -3);
        s.due("6 CLAUSES", s.x.count(2), 6);
        s.due("no LAWS", s.x.count(1), 0);
    }

    private static void promise7Fault() {
        Script s = new Script("promise 7");
        s.tellFault("offer a a", 8);
        s.due("-2 changes nothing", s.x.tell(1), -2);
        s.due("place", s.x.fault(), 8);
        s.due("again", s.x.fault(), 8);
        s.x.image();
        s.tell(ASK);
        s.due("none", s.x.fault(), -1);
        s.lawFault("no", 2);
        s.x.back(0);
        s.due("back() changes nothing", s.x.fault(), 2);
        s.due("no such CASE", s.x.more(0, 0), -2);
        s.due("place", s.x.fault(), 2);
        s.clause("no sent;");
        s.due("none", s.x.fault(), -1);
    }

    private static void promise8Saying() {
        Script s = new Script("promise 8");
        s.tell(ASK);
        s.tell("offer a b price 9 price 8 port 0 hold 1999 given 0 wire at 1 after 1;ask c a mouth at 1;"
                + "yes b 0 deed at 2;yes b 0 but court 7 court 6 post at 2 after 0;no a 3 mouth at 3;"
                + "back b 2 mouth at 4;deed a 3 mouth at 5;send a 0 mouth at 6;");
        int[][] due = {
            {0, 0, 1, -1, 1, 1999, 0}, {1, 2, 0, -1, 2, -1, -1}, {2, 1, -1, 0, 3, -1, -1}, {3, 1, 0, 0, 0, -1, -1},
            {4, 0, -1, 3, 2, -1, -1}, {5, 1, -1, 2, 2, -1, -1}, {6, 0, -1, 3, 2, -1, -1}, {7, 0, -1, 0, 2, -1, -1}};
        for (int k = 0; k < due.length; k++) {
            for (int what = 0; what <= 6; what++) {
                s.due("saying(1, " + k + ", " + what + ")", s.x.saying(1, k, what), due[k][what]);
            }
        }
        int[] offerWords = {8, -1, -1, 0, -1};
        int[] butWords = {-1, -1, -1, -1, 6};
        for (int w = 0; w < 5; w++) {
            s.due("word", s.x.saying(1, 0, 10 + w), offerWords[w]);
            s.due("but's word", s.x.saying(1, 3, 10 + w), butWords[w]);
            s.due("no word", s.x.saying(1, 1, 10 + w), -1);
        }
        for (int what : new int[] {-1, 7, 8, 9, 15, 2147483647, -2147483648}) {
            s.due("what " + what, s.x.saying(1, 0, what), -2);
        }
        s.due("no such SAYING", s.x.saying(1, 8, 0), -2);
        s.due("no such SAYING", s.x.saying(1, -1, 0), -2);
        s.due("no such CASE", s.x.saying(2, 0, 0), -2);
        s.due("no such CASE", s.x.saying(-1, 0, 0), -2);
    }

    private static void promise9Asked() {
        Script s = new Script("promise 9");
        s.tell("offer a b post at 0 to 15 after 0 to 15 read 0 to 1 lost;");
        s.due("SAYINGS", s.x.asked(0, 0), 1);
        s.due("ASKED", s.x.asked(0, 1), 4);
        s.due("1,024 COMBOS", s.x.asked(0, 2), 1024);
        s.tell("offer a b post at 0 to 15 after 0 to 15 read 0 to 1 lost;ask a b mouth at 5 to 6;");
        s.due("ASKED", s.x.asked(1, 1), 5);
        s.due("more COMBOS", s.x.asked(1, 2), -1);
        s.tell("offer a b post at 0 to 15 after 0 to 4 read 0 to 12;");
        s.due("1,040 COMBOS", s.x.asked(2, 2), -1);
        s.tell(Script.times("ask a b post at 0 to 15 after 0 to 15 read 0 to 15 lost;", 12));
        s.due("ASKED", s.x.asked(3, 1), 48);
        s.due("COMBOS beyond all numbers", s.x.asked(3, 2), -1);
        s.tell("ask a b mouth at 5 to 5;");
        s.due("not told as one number", s.x.asked(4, 1), 1);
        s.due("one COMBO", s.x.asked(4, 2), 1);
        s.due("what", s.x.asked(0, 3), -2);
        s.due("what", s.x.asked(0, -1), -2);
        s.due("no such CASE", s.x.asked(5, 0), -2);
        s.due("no such CASE", s.x.asked(-1, 0), -2);
    }

    private static void promise10Hour() {
        Script s = new Script("promise 10");
        s.tell("ask a b post at 10 to 12 after 5 to 6 read 1 to 2 lost;ask b a wire at 3 after 4;ask a c deed at 7 to 8;");
        s.due("COMBOS", s.x.asked(0, 2), 48);
        s.due("sent", s.x.hour(0, 0, 0, 0), 10);
        s.due("comes", s.x.hour(0, 0, 0, 1), 15);
        s.due("is read", s.x.hour(0, 0, 0, 2), 16);
        s.due("the first is lowest", s.x.hour(0, 2, 0, 0), 12);
        s.due("then after", s.x.hour(0, 3, 0, 1), 16);
        s.due("then read", s.x.hour(0, 6, 0, 2), 17);
        s.due("all", s.x.hour(0, 11, 0, 2), 20);
        s.due("lost, sent", s.x.hour(0, 12, 0, 0), 10);
        s.due("lost, comes", s.x.hour(0, 12, 0, 1), -1);
        s.due("lost, read", s.x.hour(0, 12, 0, 2), -1);
        s.due("read at once", s.x.hour(0, 12, 1, 2), 7);
        s.due("deed", s.x.hour(0, 23, 2, 2), 7);
        s.due("deed", s.x.hour(0, 24, 2, 1), 8);
        s.due("no such COMBO", s.x.hour(0, 48, 0, 0), -2);
        s.due("no such COMBO", s.x.hour(0, -1, 0, 0), -2);
        s.due("no such SAYING", s.x.hour(0, 0, 3, 0), -2);
        s.due("no such SAYING", s.x.hour(0, 0, -1, 0), -2);
        s.due("what", s.x.hour(0, 0, 0, 3), -2);
        s.due("what", s.x.hour(0, 0, 0, -1), -2);
        s.due("no such CASE", s.x.hour(1, 0, 0, 0), -2);
        s.tell("ask a b post at 0 to 15 after 0 to 15 read 0 to 15;");
        s.due("not LOOKED at", s.x.hour(1, 0, 0, 0), -2);
    }

    private static void promise11Rule() {
        Script s = new Script("promise 11");
        s.law("");
        s.law("yes post sent;yes wire read;yes mouth sent;offer sent;back read;no sent;hold binds;lapse 0;silence 999;"
                + "but small;form none;deed yes;risk come;");
        s.law("yes post sent;yes all read;yes wire sent;hold binds;hold free;but small;but no;form last;form first;"
                + "deed yes;deed none;risk sent;lapse 5;lapse 7;");
        int[][] due = {
            {1, 1, 1, 1, 1, 1, 0, -1, -1, 0, 0, 0, 0, 0},
            {0, 2, 0, 0, 2, 0, 1, 0, 999, 1, 2, 1, 2, 13},
            {2, 0, 2, 1, 1, 1, 0, 7, -1, 0, 0, 0, 1, 14}};
        for (int law = 0; law < 3; law++) {
            for (int what = 0; what <= 13; what++) {
                s.due("rule(" + law + ", " + what + ")", s.x.rule(law, what), due[law][what]);
            }
        }
        s.due("what", s.x.rule(0, 14), -2);
        s.due("what", s.x.rule(0, -1), -2);
        s.due("no such LAW", s.x.rule(3, 0), -2);
        s.due("no such LAW", s.x.rule(-1, 0), -2);
    }

    private static void promise12Run() {
        Script s = new Script("promise 12");
        s.law("yes post sent;");
        s.law("");
        s.law("yes all read;deed yes;");
        s.tell(OFFER + "back a 0 wire at 35 after 1;yes b 0 post at 32 after 20;");
        s.due("the YES", s.x.run(0, 0, 0, 0), 2);
        s.due("the OFFER", s.x.run(0, 0, 0, 1), 0);
        s.due("the hour", s.x.run(0, 0, 0, 2), 32);
        s.due("price", s.x.run(0, 0, 0, 10), 9);
        s.due("court", s.x.run(0, 0, 0, 14), -1);
        s.due("back came ahead", s.x.run(0, 1, 0, 0), -2);
        // A YES sent ahead of the OFFER's coming makes none; one sent at that hour does.
        s.tell(OFFER + "yes b 0 mouth at 29;");
        s.due("had not come", s.x.run(1, 0, 0, 0), -2);
        s.tell(OFFER + "yes b 0 mouth at 30;");
        s.due("had come", s.x.run(2, 0, 0, 2), 30);
        // A "back" of the YES ahead of its hour; not one at its hour.
        s.tell(OFFER + "yes b 0 post at 32 after 20;back b 1 wire at 40 after 11;");
        s.due("taken back", s.x.run(3, 1, 0, 0), -2);
        s.due("too late", s.x.run(3, 0, 0, 2), 32);
        s.tell(OFFER + "yes b 0 post at 32 after 20;back b 1 wire at 40 after 12;");
        s.due("not ahead", s.x.run(4, 1, 0, 2), 52);
        // A deed binds when it's sent, by a LAW that says so; by the way of a deed a yes goes as by mouth.
        s.tell(OFFER + "deed b 0 post at 40 after 20;yes b 0 deed at 45;");
        s.due("no deed", s.x.run(5, 1, 0, 0), 2);
        s.due("deed", s.x.run(5, 2, 0, 0), 1);
        s.due("deed's hour", s.x.run(5, 2, 0, 2), 40);
        // At one hour the lesser SAYING.
        s.tell("offer a b mouth at 1;offer a b mouth at 1;yes b 1 mouth at 4;yes b 0 mouth at 4;yes b 1 mouth at 5;");
        s.due("the lesser", s.x.run(6, 1, 0, 0), 2);
        s.due("its OFFER", s.x.run(6, 1, 0, 1), 1);
        // A lost OFFER; a lost YES.
        s.tell("offer a b post at 1 after 1 lost;yes b 0 post at 5 after 1 read 3 lost;");
        s.due("none lost", s.x.run(7, 2, 0, 2), 9);
        s.due("the OFFER lost", s.x.run(7, 0, 1, 0), -2);
        s.due("the YES lost, sent", s.x.run(7, 0, 2, 2), 5);
        s.due("the YES lost, come", s.x.run(7, 1, 2, 2), -2);
        // Given another CASE's bargain in all its COMBOS.
        s.tell("offer a b given 7 mouth at 1;yes b 0 mouth at 2;");
        s.due("not sure", s.x.run(8, 0, 0, 0), -2);
        s.tell("offer a b given 2 mouth at 1;yes b 0 mouth at 2;");
        s.tell("offer a b given 9 mouth at 1;yes b 0 mouth at 2;");
        s.due("sure through two", s.x.run(10, 0, 0, 2), 2);
        s.tell("ask a b post at 0 to 15 after 0 to 15 read 0 to 15;");
        s.tell("offer a b given 11 mouth at 1;yes b 0 mouth at 2;");
        s.due("given one not LOOKED at", s.x.run(12, 0, 0, 2), -2);
        for (int what : new int[] {-1, 3, 9, 15}) {
            s.due("what " + what, s.x.run(0, 0, 0, what), -3);
        }
        s.due("no such COMBO", s.x.run(0, 0, 1, 0), -3);
        s.due("no such COMBO", s.x.run(0, 0, -1, 0), -3);
        s.due("no such LAW", s.x.run(0, 3, 0, 0), -3);
        s.due("no such CASE", s.x.run(13, 0, 0, 0), -3);
        s.due("not LOOKED at", s.x.run(11, 0, 0, 0), -3);
    }

    private static void promise12RunSmall() {
        Script s = new Script("promise 12, SMALL");
        s.law("but small;form first;");
        s.law("but small;form last;");
        s.law("but small;form none;");
        s.law("");
        s.tell("offer a b price 9 port 1 mouth at 10;yes b 0 but port 2 court 3 mouth at 12;yes a 1 mouth at 15;");
        int[][] due = {{1, 0, 12, 9, 1, -1}, {1, 0, 12, 9, 2, 3}, {1, 0, 12, 9, -1, -1}, {2, 1, 15, 9, 2, 3}};
        int[] whats = {0, 1, 2, 10, 13, 14};
        for (int law = 0; law < 4; law++) {
            for (int i = 0; i < whats.length; i++) {
                s.due("run(0, " + law + ", 0, " + whats[i] + ")", s.x.run(0, law, 0, whats[i]), due[law][i]);
            }
        }
        s.tell("offer a b price 9 port 1 mouth at 10;yes b 0 but port 2 day 3 mouth at 12;");
        s.due("day isn't little", s.x.run(1, 0, 0, 0), -2);
        // By a LAW by which it's SMALL, what answers it answers no OFFER.
        s.tell("offer a b price 9 mouth at 10;yes b 0 but port 2 post at 12 after 9;back b 1 mouth at 13;"
                + "yes a 1 mouth at 30;");
        s.due("no OFFER", s.x.run(2, 0, 0, 0), -2);
        // A counter-offer's WORDS go over those it answers, and over those that these answer.
        s.tell("offer a b price 9 much 1 mouth at 1;yes b 0 but price 8 mouth at 2;yes a 1 but port 4 day 5 mouth at 3;"
                + "yes b 2 mouth at 4;");
        int[] words = {8, 1, 5, 4, -1};
        for (int w = 0; w < 5; w++) {
            s.due("word " + w, s.x.run(3, 3, 0, 10 + w), words[w]);
        }
        s.due("the OFFER", s.x.run(3, 3, 0, 1), 2);
    }

    private static void promise12RunSilence() {
        Script s = new Script("promise 12, silence");
        s.law("silence 5;");
        s.tell("offer a b much 3 post at 10 after 2 read 3;");
        s.due("by silence", s.x.run(0, 0, 0, 0), -1);
        s.due("the OFFER", s.x.run(0, 0, 0, 1), 0);
        s.due("the hour", s.x.run(0, 0, 0, 2), 20);
        s.due("much", s.x.run(0, 0, 0, 11), 3);
        // An answer sent by then breaks it, though it never comes; one sent later doesn't.
        s.tell("offer a b mouth at 10;deed b 0 post at 15 after 100;");
        s.due("a deed sent by then", s.x.run(1, 0, 0, 0), -2);
        s.tell("offer a b mouth at 10;deed b 0 post at 16 after 100;");
        s.due("a deed sent later", s.x.run(2, 0, 0, 2), 15);
        s.tell("offer a b mouth at 10;yes b 0 but price 1 post at 12 after 900;");
        s.due("a yes with but sent by then", s.x.run(3, 0, 0, 0), -1);
        s.due("the new OFFER's silence", s.x.run(3, 0, 0, 2), 917);
        // At one hour a YES's goes ahead; of two silences the lesser OFFER's.
        s.tell("offer a b mouth at 10;offer a c mouth at 1;yes c 1 mouth at 15;offer c a mouth at 10;no c 1 mouth at 20;");
        s.due("another OFFER's silence", s.x.run(4, 0, 0, 1), 1);
        s.due("at", s.x.run(4, 0, 0, 2), 6);
        s.tell("offer c b mouth at 10;offer a c mouth at 14;offer a b mouth at 10;yes c 1 mouth at 15;");
        s.due("the YES's", s.x.run(5, 0, 0, 0), 3);
        s.tell("ask a b mouth at 1;offer c b mouth at 10;offer a b mouth at 10;");
        s.due("the lesser OFFER's", s.x.run(6, 0, 0, 1), 1);
        s.tell("offer a b hold 14 mouth at 10;");
        s.due("no longer open", s.x.run(7, 0, 0, 0), -2);
        s.tell("offer a b post at 10 after 1 lost;");
        s.due("lost is never read", s.x.run(8, 0, 1, 0), -2);
    }

    private static void promise13Open() {
        Script s = new Script("promise 13");
        s.law("");
        s.law("offer sent;back sent;no read;hold binds;lapse 8;but small;");
        s.tell("offer a b post at 10 after 2 read 1;back a 0 wire at 20 after 3;no b 0 post at 15 after 8 read 4;");
        checkOpen(s, 0, 0, 0, new int[] {12, 23, 1});
        checkOpen(s, 0, 1, 0, new int[] {10, 20, 1});
        s.tell("offer a b post at 10 after 2;no b 0 mouth at 20;back a 0 mouth at 21;");
        checkOpen(s, 1, 0, 0, new int[] {12, 20, 2});
        checkOpen(s, 1, 1, 0, new int[] {10, 20, 2});
        s.tell("offer a b post at 10 after 2;no b 0 mouth at 21;back a 0 mouth at 21;");
        checkOpen(s, 2, 0, 0, new int[] {12, 21, 1});
        // "lapse" counts from when it comes; with "hold" there is none.
        s.tell("offer a b post at 10 after 2;");
        checkOpen(s, 3, 0, 0, new int[] {12, 9999, 0});
        checkOpen(s, 3, 1, 0, new int[] {10, 21, 4});
        s.tell("offer a b hold 50 post at 10 after 2;back a 0 mouth at 50;");
        checkOpen(s, 4, 0, 0, new int[] {12, 50, 1});
        checkOpen(s, 4, 1, 0, new int[] {10, 51, 3});
        s.tell("offer a b hold 50 post at 10 after 2;back a 0 mouth at 51;");
        checkOpen(s, 5, 1, 0, new int[] {10, 51, 1});
        s.tell("offer a b hold 0 mouth at 0;back a 0 mouth at 0;");
        checkOpen(s, 6, 0, 0, new int[] {0, 0, 1});
        checkOpen(s, 6, 1, 0, new int[] {0, 1, 3});
        // A "yes" with "but" ends what it answers and is open itself, unless it's SMALL.
        s.tell("offer a b mouth at 10;yes b 0 but port 1 wire at 12 after 1;");
        checkOpen(s, 7, 0, 0, new int[] {10, 13, 2});
        checkOpen(s, 7, 0, 1, new int[] {13, 9999, 0});
        checkOpen(s, 7, 1, 0, new int[] {10, 19, 4});
        s.due("SMALL", s.x.open(7, 1, 0, 1, 0), -2);
        s.tell("offer a b post at 10 after 2 lost;");
        checkOpen(s, 8, 0, 0, new int[] {12, 9999, 0});
        s.due("lost, never", s.x.open(8, 0, 1, 0, 0), -1);
        s.due("lost, but sent", s.x.open(8, 1, 1, 0, 0), 10);
        s.due("lost, no lapse", s.x.open(8, 1, 1, 0, 1), 9999);
        s.tell("offer a b given 8 mouth at 1;");
        s.due("given in vain", s.x.open(9, 0, 0, 0, 0), -1);
        s.due("no OFFER", s.x.open(0, 0, 0, 1, 0), -2);
        s.due("no such SAYING", s.x.open(0, 0, 0, 3, 0), -2);
        s.due("no such SAYING", s.x.open(0, 0, 0, -1, 0), -2);
        s.due("what", s.x.open(0, 0, 0, 0, 3), -2);
        s.due("what", s.x.open(0, 0, 0, 0, -1), -2);
        s.due("no such COMBO", s.x.open(0, 0, 1, 0, 0), -2);
        s.due("no such LAW", s.x.open(0, 2, 0, 0, 0), -2);
        s.due("no such CASE", s.x.open(10, 0, 0, 0, 0), -2);
    }

    private static void checkOpen(Script s, int number, int law, int k, int[] due) {
        for (int what = 0; what < 3; what++) {
            s.due("open(" + number + ", " + law + ", 0, " + k + ", " + what + ")", s.x.open(number, law, 0, k, what),
                    due[what]);
        }
    }

    private static void promise14Binds() {
        Script s = new Script("promise 14");
        s.law("");
        s.tell("offer c b mouth at 1;yes b 0 mouth at 2;");
        s.due("c and b", s.x.binds(0, 0, 0), 6);
        s.tell("offer a c mouth at 1;yes c 0 but price 1 mouth at 2;yes a 1 mouth at 3;");
        s.due("a and c", s.x.binds(1, 0, 0), 5);
        s.tell(ASK);
        s.due("no bargain", s.x.binds(2, 0, 0), 0);
        s.due("no such CASE", s.x.binds(3, 0, 0), -2);
        s.due("no such LAW", s.x.binds(0, 1, 0), -2);
        s.due("no such COMBO", s.x.binds(0, 0, 1), -2);
    }

    private static void promise15Sure() {
        Script s = new Script("promise 15");
        s.law("");
        s.tell("offer a b mouth at 10 to 12;yes b 0 post at 11 after 3 to 4;");
        int[] due = {4, 0, 2, 14, 15};
        for (int what = 0; what < 5; what++) {
            s.due("sure " + what, s.x.sure(0, 0, what), due[what]);
        }
        s.tell(ASK);
        int[] none = {0, -1, 0, -1, -1};
        for (int what = 0; what < 5; what++) {
            s.due("none " + what, s.x.sure(1, 0, what), none[what]);
        }
        s.tell("offer a b mouth at 0;yes b 0 mouth at 0;");
        int[] all = {1, 0, -1, 0, 0};
        for (int what = 0; what < 5; what++) {
            s.due("all " + what, s.x.sure(2, 0, what), all[what]);
        }
        s.tell("offer a b post at 0 to 15 after 0 to 15 lost;yes b 0 mouth at 15 to 16;");
        s.due("1,024 COMBOS", s.x.sure(3, 0, 0), 136 + 151);
        s.tell("ask a b post at 0 to 15 after 0 to 15 read 0 to 15;");
        s.due("not LOOKED at", s.x.sure(4, 0, 0), -2);
        s.due("what", s.x.sure(0, 0, 5), -2);
        s.due("what", s.x.sure(0, 0, -1), -2);
        s.due("no such LAW", s.x.sure(0, 1, 0), -2);
        s.due("no such CASE", s.x.sure(5, 0, 0), -2);
    }

    private static void promise16Hang() {
        Script s = new Script("promise 16");
        s.law("");
        s.tell("ask a b mouth at 1 to 3;offer a b mouth at 10 to 12;yes b 1 post at 11 after 3 to 4 lost;");
        s.due("on the OFFER's at and lost", s.x.hang(0, 0), 2 | 8);
        s.tell(ASK);
        s.due("on nothing", s.x.hang(1, 0), 0);
        s.tell(Script.times("ask a b post at 1 to 1 after 1 to 1 read 1 to 1;", 4));
        s.due("12 ASKED ones", s.x.hang(2, 0), 0);
        s.more(2, "ask a b mouth at 1 to 1;");
        s.due("LOOKED at", s.x.asked(2, 2), 1);
        s.due("13 ASKED ones", s.x.hang(2, 0), -2);
        s.tell("offer a b mouth at 10 to 25;yes b 0 mouth at 10 to 25;back a 0 mouth at 10 to 13;");
        s.due("1,024 COMBOS", s.x.hang(3, 0), 7);
        s.tell("ask a b post at 0 to 15 after 0 to 15 read 0 to 15;");
        s.due("not LOOKED at", s.x.hang(4, 0), -2);
        s.due("no such LAW", s.x.hang(0, 1), -2);
        s.due("no such CASE", s.x.hang(5, 0), -2);
    }

    private static void promise17Bears() {
        Script s = new Script("promise 17");
        s.law("");
        s.law("risk sent;");
        s.law("risk come;");
        s.tell("offer a b mouth at 10;yes b 0 mouth at 15;send a 0 post at 20 after 10;send a 0 post at 22 after 3 lost;"
                + "send a 0 mouth at 40;");
        s.due("ahead", s.x.bears(0, 0, 0, 14), 0);
        s.due("from the bargain's", s.x.bears(0, 0, 0, 15), 1);
        s.due("sent", s.x.bears(0, 1, 0, 19), 0);
        s.due("sent", s.x.bears(0, 1, 0, 20), 1);
        s.due("come", s.x.bears(0, 2, 0, 24), 0);
        s.due("come", s.x.bears(0, 2, 0, 25), 1);
        s.due("lost", s.x.bears(0, 2, 1, 29), 0);
        s.due("come", s.x.bears(0, 2, 1, 30), 1);
        s.tell("offer a b mouth at 10;send a 0 mouth at 12;yes b 0 mouth at 15;");
        s.due("not ahead of the bargain's", s.x.bears(1, 1, 0, 14), 0);
        s.due("from the bargain's", s.x.bears(1, 1, 0, 15), 1);
        s.tell("offer b c mouth at 10;offer b c mouth at 10;send b 1 mouth at 11;yes c 0 mouth at 12;");
        s.due("of another OFFER", s.x.bears(2, 1, 0, 2147483647), 1);
        s.due("hour 0", s.x.bears(2, 0, 0, 0), 1);
        s.due("any hour behind", s.x.bears(2, 0, 0, 2147483647), 2);
        s.tell(ASK);
        s.due("no bargain", s.x.bears(3, 0, 0, 5), -1);
        s.due("hour below 0", s.x.bears(3, 0, 0, -1), -2);
        s.due("no such COMBO", s.x.bears(3, 0, 1, 5), -2);
        s.due("no such LAW", s.x.bears(3, 3, 0, 5), -2);
        s.due("no such CASE", s.x.bears(4, 0, 0, 5), -2);
    }

    private static void promise18Judge() {
        Script s = new Script("promise 18");
        s.law("");
        s.law("silence 3;");
        s.tell("offer a b mouth at 10;yes b 0 mouth at 15;");
        s.due("right", s.x.judge(0, 0, 0, 1, 15), -1);
        s.due("the hour isn't", s.x.judge(0, 0, 0, 1, 14), 2);
        s.due("the YES isn't", s.x.judge(0, 0, 0, 0, 15), 1);
        s.due("the YES isn't", s.x.judge(0, 0, 0, -1, 15), 1);
        s.due("the YES isn't", s.x.judge(0, 0, 0, 77, 14), 1);
        s.due("there is one", s.x.judge(0, 0, 0, -2, 15), 0);
        s.due("by silence", s.x.judge(0, 1, 0, -1, 13), -1);
        s.due("not by a YES", s.x.judge(0, 1, 0, 1, 13), 1);
        s.due("not at that hour", s.x.judge(0, 1, 0, -1, 15), 2);
        s.tell(ASK);
        s.due("there is none", s.x.judge(1, 0, 0, -2, 99), -1);
        s.due("there is none", s.x.judge(1, 0, 0, -1, 99), 0);
        s.due("there is none", s.x.judge(1, 0, 0, 0, 99), 0);
        s.due("no such COMBO", s.x.judge(1, 0, 1, -2, 0), -2);
        s.due("no such LAW", s.x.judge(1, 2, 0, -2, 0), -2);
        s.due("no such CASE", s.x.judge(2, 0, 0, -2, 0), -2);
    }

    private static void promise19Apart() {
        Script s = new Script("promise 19");
        s.law("");
        s.law("yes all sent;");
        s.law("but small;form first;");
        s.law("but small;form last;");
        s.tell("offer a b mouth at 10 to 11;yes b 0 post at 10 after 0 to 2;");
        s.due("unlike hours", s.x.apart(0, 0, 1, 0), 2);
        s.due("the first", s.x.apart(0, 0, 1, 1), 2);
        s.due("with itself", s.x.apart(0, 1, 1, 0), 0);
        s.due("with itself", s.x.apart(0, 1, 1, 1), -1);
        s.tell("offer a b port 1 mouth at 10;yes b 0 but port 2 mouth at 11;");
        s.due("unlike WORDS", s.x.apart(1, 2, 3, 0), 1);
        s.due("one and none", s.x.apart(1, 0, 2, 0), 1);
        s.tell("offer a b port 1 mouth at 10;yes b 0 but port 1 mouth at 11;");
        s.due("like WORDS", s.x.apart(2, 2, 3, 0), 0);
        for (int w = 0; w < 5; w++) {
            String word = new String[] {"price", "much", "day", "port", "court"}[w];
            checkOffersApart(word);
        }
        s.due("what", s.x.apart(0, 0, 1, 2), -2);
        s.due("what", s.x.apart(0, 0, 1, -1), -2);
        s.due("no such LAW", s.x.apart(0, 0, 4, 0), -2);
        s.due("no such LAW", s.x.apart(0, -1, 0, 0), -2);
        s.due("no such CASE", s.x.apart(3, 0, 1, 0), -2);
        s.tell("ask a b post at 0 to 15 after 0 to 15 read 0 to 15;");
        s.due("not LOOKED at", s.x.apart(3, 0, 1, 0), -2);
    }

    /** Two LAWS with bargains at one hour on OFFERS that tell a WORD unlike. */
    private static void checkOffersApart(String word) {
        Script s = new Script("promise 19, " + word);
        s.law("deed yes;");
        s.law("");
        s.tell("offer a b " + word + " 1 mouth at 1;offer a b " + word + " 2 mouth at 1;deed b 0 mouth at 5;"
                + "yes b 1 mouth at 5;");
        s.due("the one", s.x.run(0, 0, 0, 1), 0);
        s.due("the other", s.x.run(0, 1, 0, 1), 1);
        s.due("unlike", s.x.apart(0, 0, 1, 0), 1);
        s.tell("offer a b " + word + " 1 mouth at 1;offer a b " + word + " 1 mouth at 1;deed b 0 mouth at 5;"
                + "yes b 1 mouth at 5;");
        s.due("like", s.x.apart(1, 0, 1, 0), 0);
    }

    private static void promise20Part() {
        Script s = new Script("promise 20");
        s.law("");
        s.law("yes all sent;");
        s.due("no CASES", s.x.part(0, 1), -1);
        s.tell("offer a b mouth at 1;yes b 0 mouth at 2;");
        s.due("none parts", s.x.part(0, 1), -1);
        s.tell(ASK + "offer a b mouth at 1;yes b 1 post at 2 after 1;");
        s.due("that one", s.x.part(0, 1), 1);
        s.tell("offer a b mouth at 1;yes b 0 post at 2 after 0 to 1;");
        s.due("a shorter one", s.x.part(1, 0), 2);
        s.tell("offer a b mouth at 1;yes b 0 post at 2 after 1;");
        s.due("the least of as short ones", s.x.part(1, 0), 2);
        s.tell("offer a b mouth at 1;yes b 0 post at 2 to 17 after 1 to 16 read 1 to 16;");
        s.due("not LOOKED at", s.x.part(1, 0), 2);
        s.due("no such LAW", s.x.part(0, 2), -2);
        s.due("no such LAW", s.x.part(-1, 0), -2);
    }

    private static void promise21Write() {
        Script s = new Script("promise 21");
        s.tell("offer a b mouth at 10;yes b 0 post at 12 after 5 read 5;back a 0 mouth at 15;");
        s.due("no LAWS", s.x.write(0), -2);
        s.law("");
        s.due("no CLAUSES", s.x.write(0), -1);
        s.law("back read;yes all read;");
        s.clause("yes all sent;");
        s.clause("yes all read;");
        s.due("the first alone", s.x.write(0), 1);
        s.clause("yes post sent;");
        s.due("the least bits", s.x.write(0), 1);
        s.tell("offer a b mouth at 10;yes b 0 mouth at 12;");
        s.due("none needed", s.x.write(1), 0);
        s.tell("offer a b mouth at 10;yes b 0 but port 1 post at 12 after 5 lost;back a 0 mouth at 15;");
        s.clause("but small;");
        s.due("two needed", s.x.write(2), 1 | 8);
        s.tell(ASK);
        s.due("none helps", s.x.write(3), -1);
        // A CLAUSE holds for the CASE that is given, too; the later CLAUSE goes over the earlier one.
        s.tell("offer a b given 2 mouth at 10;yes b 0 mouth at 12;");
        s.due("through a given one", s.x.write(4), 1 | 8);
        s.tell("ask a b post at 0 to 15 after 0 to 15 read 0 to 15;");
        s.due("not LOOKED at", s.x.write(5), -2);
        s.due("no such CASE", s.x.write(6), -2);
        s.due("no such CASE", s.x.write(-1), -2);
        s.due("LAWS stay as they were", s.x.rule(0, 0), 1);
    }

    private static void promise22Does() {
        Script s = new Script("promise 22");
        s.law("");
        s.law("hold binds;");
        s.law("silence 1;");
        s.tell("offer a b hold 30 mouth at 10;back a 0 mouth at 20;back a 0 mouth at 20;no b 0 mouth at 20;"
                + "yes b 0 but price 1 mouth at 25;yes a 4 post at 26 after 4;back a 5 mouth at 29;back a 5 mouth at 30;");
        int[] free = {1, 2, 0, 0, 1, 0, 8, 0};
        int[] held = {1, 0, 0, 2, 1, 0, 8, 0};
        for (int k = 0; k < 8; k++) {
            s.due("free " + k, s.x.does(0, 0, 0, k), free[k]);
            s.due("held " + k, s.x.does(0, 1, 0, k), held[k]);
        }
        s.tell("offer a b mouth at 10;yes b 0 but price 1 mouth at 12;yes a 1 mouth at 14;");
        s.due("OFFER and no", s.x.does(1, 0, 0, 1), 3);
        s.due("the YES", s.x.does(1, 0, 0, 2), 4);
        s.due("silence is made by none", s.x.does(1, 2, 0, 2), 0);
        s.tell("offer a b post at 10 after 1 lost;yes b 0 post at 20 after 5 lost;back b 1 post at 21 after 1 lost;");
        s.due("a lost OFFER", s.x.does(2, 0, 1, 0), 0);
        s.due("a back of a lost YES", s.x.does(2, 0, 2, 2), 0);
        s.due("a back of a YES", s.x.does(2, 0, 0, 2), 8);
        s.due("a lost back", s.x.does(2, 0, 4, 2), 0);
        s.due("no such SAYING", s.x.does(2, 0, 0, 3), -2);
        s.due("no such SAYING", s.x.does(2, 0, 0, -1), -2);
        s.due("no such COMBO", s.x.does(2, 0, 8, 0), -2);
        s.due("no such LAW", s.x.does(2, 3, 0, 0), -2);
        s.due("no such CASE", s.x.does(3, 0, 0, 0), -2);
    }

    private static void promise23Can() {
        Script s = new Script("promise 23");
        s.law("offer sent;");
        s.law("hold binds;");
        s.tell("offer a b post at 10 after 5;yes b 0 mouth at 30;");
        s.due("ahead", s.x.can(0, 0, 0, 0, 9), 0);
        s.due("a from when it's open", s.x.can(0, 0, 0, 0, 10), 1);
        s.due("b not yet", s.x.can(0, 0, 0, 1, 14), 0);
        s.due("b when it has come", s.x.can(0, 0, 0, 1, 15), 2);
        s.due("ahead of the bargain's", s.x.can(0, 0, 0, 1, 29), 2);
        s.due("at the bargain's", s.x.can(0, 0, 0, 1, 30), 0);
        s.due("c", s.x.can(0, 0, 0, 2, 20), 0);
        s.tell("offer a b hold 40 mouth at 10;offer b a mouth at 5;");
        s.due("held", s.x.can(1, 1, 0, 0, 20), 2);
        s.due("not held", s.x.can(1, 0, 0, 0, 20), 3);
        s.due("b", s.x.can(1, 1, 0, 1, 40), 3);
        s.due("b", s.x.can(1, 1, 0, 1, 41), 1);
        s.due("hour 0", s.x.can(1, 1, 0, 1, 0), 0);
        s.due("hour 9,998", s.x.can(1, 1, 0, 1, 9998), 1);
        s.due("hour 9,999", s.x.can(1, 1, 0, 1, 9999), -2);
        s.due("hour below 0", s.x.can(1, 1, 0, 1, -1), -2);
        s.due("no such HAND", s.x.can(1, 1, 0, 3, 5), -2);
        s.due("no such HAND", s.x.can(1, 1, 0, -1, 5), -2);
        s.due("no such COMBO", s.x.can(1, 1, 1, 1, 5), -2);
        s.due("no such LAW", s.x.can(1, 2, 0, 1, 5), -2);
        s.due("no such CASE", s.x.can(2, 1, 0, 1, 5), -2);
    }

    private static void promise24Until() {
        Script s = new Script("promise 24");
        s.law("offer sent;");
        s.law("hold binds;");
        s.tell("offer a b post at 10 after 5;yes b 0 mouth at 30;");
        s.due("a", s.x.until(0, 0, 0, 0, 1), 29);
        s.due("b", s.x.until(0, 0, 0, 1, 2), 29);
        s.due("b has no OFFER", s.x.until(0, 0, 0, 1, 1), -1);
        s.tell("offer a b hold 40 mouth at 10;offer a b mouth at 5;no b 1 mouth at 9;");
        s.due("held, but for another", s.x.until(1, 1, 0, 0, 1), 8);
        s.due("not held", s.x.until(1, 0, 0, 0, 1), 40);
        s.due("b", s.x.until(1, 1, 0, 1, 2), 40);
        s.tell("offer a b post at 10 after 5 lost;");
        s.due("for ever", s.x.until(2, 0, 0, 0, 1), 9998);
        s.due("for ever", s.x.until(2, 0, 0, 1, 2), 9998);
        s.due("lost, sent", s.x.until(2, 0, 1, 0, 1), 9998);
        s.due("lost, never came", s.x.until(2, 0, 1, 1, 2), -1);
        s.tell("offer a b mouth at 10;back a 0 mouth at 10;");
        s.due("ended as it began", s.x.until(3, 0, 0, 1, 2), -1);
        s.due("what", s.x.until(0, 0, 0, 0, 0), -2);
        s.due("what", s.x.until(0, 0, 0, 0, 3), -2);
        s.due("no such HAND", s.x.until(0, 0, 0, 3, 1), -2);
        s.due("no such HAND", s.x.until(0, 0, 0, -1, 1), -2);
        s.due("no such COMBO", s.x.until(0, 0, 1, 0, 1), -2);
        s.due("no such LAW", s.x.until(0, 2, 0, 0, 1), -2);
        s.due("no such CASE", s.x.until(4, 0, 0, 0, 1), -2);
    }

    private static void promise25Lost() {
        Script s = new Script("promise 25");
        s.law("");
        s.law("yes all sent;");
        s.tell("offer a b mouth at 10 to 11;yes b 0 post at 10 to 12 after 1 to 2 lost;");
        s.due("come", s.x.lost(0, 0, 1), 0);
        s.due("sent, without its lost", s.x.lost(0, 1, 1), 10);
        s.due("it stays as it was", s.x.asked(0, 2), 24);
        s.due("by mouth", s.x.lost(0, 0, 0), -2);
        s.tell(OFFER + "back a 0 wire at 31 after 1;yes b 0 mouth at 40;");
        s.due("without the back", s.x.lost(1, 0, 1), 1);
        s.due("without the OFFER", s.x.lost(1, 0, 0), 0);
        s.tell("offer a b post at 0 to 15 after 0 to 15 read 0 to 3 lost;yes b 0 mouth at 50;");
        s.due("not LOOKED at as it is", s.x.asked(2, 2), -1);
        s.due("LOOKED at then", s.x.lost(2, 0, 0), 0);
        s.tell("ask a b post at 0 to 15 after 0 to 15 read 0 to 15;");
        s.due("not LOOKED at then", s.x.lost(3, 0, 0), -2);
        s.tell("offer a b deed at 1;");
        s.due("by deed", s.x.lost(4, 0, 0), -2);
        s.due("no such SAYING", s.x.lost(1, 0, 3), -2);
        s.due("no such SAYING", s.x.lost(1, 0, -1), -2);
        s.due("no such LAW", s.x.lost(1, 2, 0), -2);
        s.due("no such CASE", s.x.lost(5, 0, 0), -2);
    }

    private static void promise26Wired() {
        Script s = new Script("promise 26");
        s.law("");
        s.law("yes mouth sent;yes wire read;");
        s.tell(OFFER + "back a 0 wire at 35 after 1;yes b 0 post at 32 to 36 after 20 to 23 lost;");
        s.due("as it is", s.x.sure(0, 0, 0), 0);
        s.due("wired", s.x.wired(0, 0, 2), 4);
        s.due("its COMBOS", s.x.asked(0, 2), 40);
        s.tell("offer a b mouth at 10;yes b 0 post at 11 to 26 after 0 to 15 read 0 to 15 lost;");
        s.due("LOOKED at then", s.x.wired(1, 0, 1), 16);
        s.due("not LOOKED at then", s.x.wired(1, 0, 0), -2);
        s.tell("offer a b mouth at 10 to 12;yes b 0 deed at 11;");
        s.due("by mouth, too", s.x.wired(2, 0, 0), 2);
        s.due("by deed, too", s.x.wired(2, 1, 1), 2);
        s.due("no such SAYING", s.x.wired(0, 0, 3), -2);
        s.due("no such SAYING", s.x.wired(0, 0, -1), -2);
        s.due("no such LAW", s.x.wired(0, 2, 0), -2);
        s.due("no such CASE", s.x.wired(3, 0, 0), -2);
    }

    private static void promise27And28Images() {
        Script s = new Script("promises 27, 28");
        s.due("none such", s.x.back(0) ? 1 : 0, 0);
        s.due("of nothing", s.x.image(), 0);
        s.tell("offer a b mouth at 1;");
        s.law("silence 5;");
        s.clause("no sent;");
        s.due("the second", s.x.image(), 1);
        s.more(0, "no b 0 mouth at 2;");
        s.tell("offer a b given 0 mouth at 1;yes b 0 mouth at 2;");
        s.law("");
        s.due("given in vain", s.x.run(1, 0, 0, 0), -2);
        s.due("the third", s.x.image(), 2);
        s.put(ASK);
        s.due("back", s.x.back(1) ? 1 : 0, 1);
        s.due("CASES", s.x.count(0), 1);
        s.due("LAWS", s.x.count(1), 1);
        s.due("CLAUSES", s.x.count(2), 1);
        s.due("the tape stays", s.x.count(3), 20);
        s.due("SAYINGS", s.x.count(4), 1);
        s.due("IMAGES stay", s.x.count(5), 3);
        s.due("as it was", s.x.run(0, 0, 0, 2), 6);
        s.due("a CASE anew", s.x.tell(19), 1);
        s.tell("offer a b given 0 mouth at 1;yes b 0 mouth at 2;");
        s.due("given", s.x.run(2, 0, 0, 2), 2);
        s.due("on to the third", s.x.back(2) ? 1 : 0, 1);
        s.due("given in vain", s.x.run(1, 0, 0, 0), -2);
        s.due("RULES", s.x.rule(1, 13), 0);
        s.due("to nothing", s.x.back(0) ? 1 : 0, 1);
        s.due("no CASES", s.x.count(0), 0);
        s.due("the fourth", s.x.image(), 3);
        s.due("no fifth", s.x.image(), -1);
        s.due("none such", s.x.back(4) ? 1 : 0, 0);
        s.due("none such", s.x.back(-1) ? 1 : 0, 0);
        s.due("again", s.x.back(1) ? 1 : 0, 1);
        s.due("one CASE", s.x.count(0), 1);
        imagesKeepLaws();
    }

    private static void imagesKeepLaws() {
        Script s = new Script("promises 27, 28, LAWS");
        s.x.image();
        for (int i = 0; i < 8; i++) {
            s.law("lapse " + i + ";");
        }
        for (int i = 0; i < 6; i++) {
            s.clause(i == 0 || i == 5 ? "yes all sent;" : "risk come;");
        }
        s.tell("offer a b mouth at 1;yes b 0 post at 1 after 50;");
        s.x.image();
        s.x.back(0);
        for (int i = 0; i < 8; i++) {
            s.law("lapse 9;");
        }
        for (int i = 0; i < 6; i++) {
            s.clause("risk sent;");
        }
        s.tell("offer a b mouth at 1;yes b 0 post at 1 after 50;");
        s.due("no CLAUSE helps", s.x.write(0), -1);
        s.x.image();
        s.x.back(1);
        for (int i = 0; i < 8; i++) {
            s.due("lapse " + i, s.x.rule(i, 7), i);
        }
        s.due("the first CLAUSE", s.x.write(0), 1);
        s.x.back(2);
        s.due("lapse", s.x.rule(0, 7), 9);
        s.due("no CLAUSE helps", s.x.write(0), -1);
    }

    private static void promise29Count() {
        Script s = new Script("promise 29");
        s.tell(ASK + ASK);
        s.tell(ASK);
        s.law("");
        s.law("");
        s.law("");
        s.clause("no sent;");
        s.put(ASK);
        s.x.image();
        int[] due = {2, 3, 1, 20, 3, 1, -1};
        for (int what = 0; what < due.length; what++) {
            s.due("count(" + what + ")", s.x.count(what), due[what]);
        }
        s.due("count(-1)", s.x.count(-1), -1);
    }

    /** Every call with arguments from far and near, on an empty object and on a full one. */
    private static void noCallThrows() {
        int[] odd = {-2147483648, -3, -2, -1, 0, 1, 2, 5, 12, 16, 900, 9998, 9999, 2147483647};
        for (int turn = 0; turn < 2; turn++) {
            for (int a : odd) {
                for (int b : odd) {
                    Script s = new Script("no call throws");
                    if (turn == 1) {
                        s.law("silence 3;lapse 4;");
                        s.law("deed yes;but small;");
                        s.clause("yes all sent;");
                        s.tell("offer a b price 3 post at 1 to 3 after 2;yes b 0 but port 1 wire at 3 after 4 lost;");
                    }
                    callAll(s.x, a, b, odd);
                }
            }
        }
    }

    private static void callAll(CrossingWords x, int a, int b, int[] odd) {
        x.saying(a, b, 0);
        x.asked(a, b);
        x.rule(a, b);
        x.part(a, b);
        x.hang(a, b);
        x.write(a);
        x.count(a);
        for (int c : odd) {
            x.saying(a, b, c);
            x.binds(a, b, c);
            x.sure(a, b, c);
            x.lost(a, b, c);
            x.wired(a, b, c);
            x.hour(a, b, c, 1);
            x.hour(0, a, b, c);
            x.run(a, b, c, 0);
            x.run(0, a, b, c);
            x.open(0, 0, a, b, c);
            x.bears(0, a, b, c);
            x.judge(0, 0, a, b, c);
            x.apart(a, b, c, 0);
            x.does(0, a, b, c);
            x.can(0, 0, a, b, c);
            x.until(0, 0, a, b, c);
        }
        x.more(a, b);
        x.feed(a, b, a, b, a);
        x.tell(a);
        x.law(b);
        x.clause(a);
        x.back(a);
    }
}
