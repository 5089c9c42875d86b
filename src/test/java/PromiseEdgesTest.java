import java.util.Arrays;

/** The promises 1 to 29: a test of its own for each sentence that names a boundary or a refused call. */
public final class PromiseEdgesTest {
    private static final int MIN = Integer.MIN_VALUE;
    private static final int MAX = Integer.MAX_VALUE;
    private static final String ASK = "ask a b mouth at 1;";
    private static final String TOO_MANY_COMBOS = "ask a b post at 0 to 15 after 0 to 15 read 0 to 15;";

    // The object that most of these tests ask: what its numbers are.
    private static final int CASES = 4;
    private static final int BARGAIN = 0;
    private static final int NO_BARGAIN = 1;
    private static final int NOT_LOOKED_AT = 2;
    private static final int BY_SILENCE = 3;
    private static final int LAWS = 2;
    private static final int COMBOS = 12;
    private static final int SAYINGS = 5;

    private static final int[] NO_CASE = {-1, CASES, 16, MIN, MAX};
    private static final int[] NO_LAW = {-1, LAWS, 8, MIN, MAX};
    private static final int[] NO_COMBO = {-1, COMBOS, 1024, MIN, MAX};
    private static final int[] NO_SAYING = {-1, SAYINGS, 12, MIN, MAX};
    private static final int[] NO_HAND = {-1, 3, MIN, MAX};

    /** A call by its arguments. */
    private interface Call {
        int of(CrossingWords x, int[] a);
    }

    public static void main(String[] args) {
        usedFor512Calls();
        promise1();
        promise2HighestFirst();
        promise2MoreThan900();
        promise3TapeIsEmptyThen();
        promise3Refused();
        promise3FullOf16();
        promise4Behind();
        promise4StaysAsItWas();
        promise4Refused();
        promise5Refused();
        promise6AtLeastOneRule();
        promise6Refused();
        promise7LatestThatWasANumberOrNone();
        promise8();
        promise8Refused();
        promise9();
        promise10();
        promise11();
        promise12();
        promise12NoBargain();
        promise13();
        promise13NeverAndNot();
        promise14();
        promise15();
        promise15AllAndNone();
        promise16();
        promise17();
        promise18();
        promise18Told();
        promise19();
        promise20();
        promise21();
        promise22();
        promise23();
        promise24();
        promise25();
        promise26();
        promise27();
        promise28();
        promise29();
        Script.end("the edges of the promises hold");
    }

    /** CASES of each sort and two LAWS. */
    private static Script full(String name) {
        Script s = new Script(name);
        s.law("");
        s.law("silence 3;but small;deed yes;");
        s.tell("offer a b price 7 post at 10 to 12 after 0 to 1 lost;yes b 0 wire at 20 after 1;back a 0 mouth at 30;"
                + "no b 0 mouth at 40;send a 0 mouth at 25;");
        s.tell("ask a b mouth at 5;");
        s.tell("offer a b mouth at 1;yes b 0 mouth at 2;" + TOO_MANY_COMBOS);
        s.tell("offer c a mouth at 1;");
        s.due("COMBOS", s.x.asked(BARGAIN, 2), COMBOS);
        return s;
    }

    /** Puts each wrong value at a place of right arguments: the refusal is due, and that nothing was done. */
    private static void refused(Script s, Call call, int refusal, int[] right, int place, int... wrong) {
        String state = s.state();
        for (int value : wrong) {
            int[] args = right.clone();
            args[place] = value;
            s.due("argument " + place + " of " + Arrays.toString(args), call.of(s.x, args), refusal);
        }
        s.sameState("refused", state);
    }

    private static void usedFor512Calls() {
        Script s = new Script("An object is used for at most 512 calls");
        int calls = 0;
        for (int i = 0; i < 45; i++) {
            s.due("feed", s.x.feed(0x20202020, 0x20202020, 0x20202020, 0x20202020, 0x20202020), 20 * (i + 1));
            calls++;
        }
        s.due("law", s.x.law(900), 0);
        s.x.feed(0x61736b20, 0x61206220, 0x6d6f7574, 0x68206174, 0x20313b20);
        s.due("tell", s.x.tell(19), 0);
        calls += 3;
        while (calls < 511) {
            s.due("write", s.x.write(0), -1);
            calls++;
        }
        s.due("the 512th", s.x.hour(0, 0, 0, 2), 1);
        // What these answer is free, but they must answer.
        for (int i = 0; i < 5000; i++) {
            s.x.feed(i, i, i, i, i);
            s.x.tell(i);
            s.x.image();
        }
    }

    private static void promise1() {
        full("another object");
        Script s = new Script("Promise 1: No CASES, LAWS.");
        for (int what = 0; what <= 5; what++) {
            s.due("count(" + what + ")", s.x.count(what), 0);
        }
        s.due("no FAULT", s.x.fault(), -1);
        s.due("no CASE", s.x.asked(0, 0), -2);
        s.due("no LAW", s.x.rule(0, 0), -2);
        s.due("no IMAGE", s.x.back(0) ? 1 : 0, 0);
        s.due("nothing on the tape", s.x.tell(1), -2);
        s.due("the first CASE", s.tell(ASK), 0);
        s.due("the first LAW", s.x.law(0), 0);
        s.due("NONE", CrossingWords.NONE, -1);
    }

    private static void promise2HighestFirst() {
        Script s = new Script("Promise 2: Twenty bytes come behind those on the tape, of each number the highest first");
        s.due("20", s.x.feed(0x61736b20, 0x61206220, 0x6d6f7574, 0x68206174, 0x20313b20), 20);
        s.due("40", s.x.feed(0x61736b20, 0x62206320, 0x6d6f7574, 0x68206174, 0x20323b20), 40);
        s.due("told", s.x.tell(39), 0);
        s.due("two SAYINGS", s.x.asked(0, 0), 2);
        s.due("the first", s.x.hour(0, 0, 0, 0), 1);
        s.due("the second", s.x.hour(0, 0, 1, 0), 2);
        s.due("a highest byte above 127", s.x.feed(0xff736b20, 0, 0, 0, 0), 20);
        s.due("it begins no token", s.x.tell(4), -1);
        s.due("at", s.x.fault(), 0);
    }

    private static void promise2MoreThan900() {
        Script s = new Script("Promise 2: NONE, doing nothing: there would be more than 900");
        s.x.feed(0x61736b20, 0x61206220, 0x6d6f7574, 0x68206174, 0x20313b20);
        for (int i = 2; i <= 44; i++) {
            s.due("feed", s.x.feed(0x20202020, 0x20202020, 0x20202020, 0x20202020, 0x20202020), 20 * i);
        }
        s.due("900", s.x.feed(0x61736b20, 0x62206320, 0x6d6f7574, 0x68206174, 0x20323b20), 900);
        s.due("more", s.x.feed(0x61736b20, 0x62206320, 0x6d6f7574, 0x68206174, 0x20323b20), -1);
        s.due("more", s.x.feed(0, 0, 0, 0, 0), -1);
        s.due("count", s.x.count(3), 900);
        s.due("more than there are", s.x.tell(901), -2);
        s.due("all 900", s.x.tell(900), 0);
        s.due("two SAYINGS", s.x.asked(0, 0), 2);
        s.due("the tape is empty", s.x.count(3), 0);
        s.due("room again", s.x.feed(0, 0, 0, 0, 0), 20);
    }

    private static void promise3TapeIsEmptyThen() {
        Script s = new Script("Promise 3: The first n bytes of the tape (which is empty then) are a CASE: its number");
        s.put(ASK + "~~~~");
        s.due("the first n", s.x.tell(19), 0);
        s.due("empty behind a CASE", s.x.count(3), 0);
        s.put("~" + ASK);
        s.due("a FAULT", s.x.tell(20), -1);
        s.due("empty behind a FAULT", s.x.count(3), 0);
        s.due("no number was used", s.tell(ASK), 1);
        s.put(ASK);
        s.due("none of them", s.x.tell(0), -1);
        s.due("its FAULT", s.x.fault(), 0);
        s.due("empty behind that", s.x.count(3), 0);
        s.put(ASK);
        s.due("all of them", s.x.tell(20), 2);
    }

    private static void promise3Refused() {
        Script s = full("Promise 3: -2, doing nothing: n is below 0 or more than there are");
        s.put(ASK);
        refused(s, (x, a) -> x.tell(a[0]), -2, new int[] {19}, 0, -1, 21, 900, MIN, MAX);
        s.due("told all the same", s.x.tell(19), CASES);
        s.due("more than none", s.x.tell(1), -2);
        s.due("none", s.x.tell(0), -1);
    }

    private static void promise3FullOf16() {
        Script s = new Script("Promise 3: -3, doing nothing: 16 are there");
        for (int i = 0; i < 16; i++) {
            s.tell(ASK);
        }
        s.due("a FAULT of more", s.more(3, ASK + "ask a"), -1);
        s.put(ASK);
        refused(s, (x, a) -> x.tell(a[0]), -3, new int[] {19}, 0, 0, 1, 19, 20);
        refused(s, (x, a) -> x.tell(a[0]), -2, new int[] {19}, 0, -1, 21);
        s.due("the FAULT stays", s.x.fault(), 24);
        s.due("the tape stays", s.x.more(3, 19), 2);
    }

    private static void promise4Behind() {
        Script s = new Script("Promise 4: SAYINGS come behind those of a CASE (places in the text from its own beginning)");
        s.tell(ASK + "offer b c mouth at 2;");
        s.tell(ASK);
        s.due("how many it has", s.more(0, "yes c 1 mouth at 3;ask c a mouth at 4;"), 4);
        s.due("no FAULT", s.x.fault(), -1);
        s.due("what", s.x.saying(0, 2, 0), 2);
        s.due("HAND", s.x.saying(0, 3, 1), 2);
        s.due("those ahead stay", s.x.saying(0, 1, 1), 1);
        s.due("another stays", s.x.asked(1, 0), 1);
        s.badMore(0, "^sold");
        s.badMore(0, ASK + "ask a ^a mouth at 1;");
        s.badMore(0, ASK + "ask a b mouth at 1^");
        s.put(ASK + "~~~~");
        s.due("the first n bytes", s.x.more(0, 19), 5);
        s.due("the tape is empty", s.x.count(3), 0);
    }

    private static void promise4StaysAsItWas() {
        Script s = new Script("Promise 4: the CASE stays as it was by a FAULT, also by the 13th SAYING in all");
        s.tell("offer a b price 1 post at 1 to 2 after 1 lost;yes b 0 mouth at 9;");
        s.law("");
        s.badMore(0, Script.times(ASK, 10) + "^" + ASK);
        s.badMore(0, "ask c b mouth at 1;yes b ^2 mouth at 1;");
        s.badMore(0, "ask c b mouth at 1 to 5;^;");
        s.badMore(0, "back a 0 mouth at 1^");
        s.badMore(0, "^");
        s.due("SAYINGS", s.x.asked(0, 0), 2);
        s.due("ASKED", s.x.asked(0, 1), 2);
        s.due("COMBOS", s.x.asked(0, 2), 4);
        s.due("no third", s.x.saying(0, 2, 0), -2);
        s.due("price", s.x.saying(0, 0, 10), 1);
        s.due("COMBOS with a bargain", s.x.sure(0, 0, 0), 2);
        s.due("in all", s.x.count(4), 2);
        s.due("the tape is empty", s.x.count(3), 0);
        s.due("12 in all", s.more(0, Script.times(ASK, 10)), 12);
    }

    private static void promise4Refused() {
        Script s = full("Promise 4: -2: no such CASE, too");
        s.put(ASK);
        refused(s, (x, a) -> x.more(a[0], a[1]), -2, new int[] {0, 19}, 0, NO_CASE);
        refused(s, (x, a) -> x.more(a[0], a[1]), -2, new int[] {0, 19}, 1, -1, 21, MIN, MAX);
        s.due("told all the same", s.x.more(0, 19), SAYINGS + 1);
        s.due("one not LOOKED at", s.more(NOT_LOOKED_AT, ASK), 4);
    }

    private static void promise5Refused() {
        Script s = full("Promise 5: Likewise a LAW: -2, -3: 8 are there");
        s.due("a FAULT", s.law("no sent;no"), -1);
        s.put("no sent;");
        refused(s, (x, a) -> x.law(a[0]), -2, new int[] {8}, 0, -1, 21, MIN, MAX);
        s.due("its number", s.x.law(8), LAWS);
        s.due("the tape is empty", s.x.count(3), 0);
        s.badLaw("no sent;no ^;");
        s.due("no number was used", s.x.law(0), LAWS + 1);
        for (int i = LAWS + 2; i < 8; i++) {
            s.law("");
        }
        s.put("no sent;");
        refused(s, (x, a) -> x.law(a[0]), -3, new int[] {8}, 0, 0, 8, 20);
        refused(s, (x, a) -> x.law(a[0]), -2, new int[] {8}, 0, -1, 21);
        s.due("CASES and CLAUSES come all the same", s.x.clause(8), 0);
    }

    private static void promise6AtLeastOneRule() {
        Script s = new Script("Promise 6: a CLAUSE (at least one RULE)");
        s.badClause("^");
        s.badClause(" \n ^");
        s.badClause("^;");
        s.due("none", s.x.count(2), 0);
        s.due("one", s.clause("no sent;"), 0);
        s.due("no FAULT", s.x.fault(), -1);
    }

    private static void promise6Refused() {
        Script s = full("Promise 6: Likewise: its number; -2, -3: 6 are there");
        s.put("no sent;");
        refused(s, (x, a) -> x.clause(a[0]), -2, new int[] {8}, 0, -1, 21, MIN, MAX);
        s.due("its number", s.x.clause(8), 0);
        s.due("the tape is empty", s.x.count(3), 0);
        s.badClause("no ^;");
        s.due("the tape is empty", s.x.count(3), 0);
        for (int i = 1; i < 6; i++) {
            s.due("its number", s.clause("no sent;"), i);
        }
        s.put("no sent;");
        refused(s, (x, a) -> x.clause(a[0]), -3, new int[] {8}, 0, 0, 8, 20);
        refused(s, (x, a) -> x.clause(a[0]), -2, new int[] {8}, 0, -1, 21);
        s.due("a LAW comes all the same", s.x.law(8), LAWS);
    }

    private static void promise7LatestThatWasANumberOrNone() {
        Script s = new Script("Promise 7: of the latest tell(), more(), law(), clause() that was a number or NONE");
        s.due("none yet", s.x.fault(), -1);
        s.badCase("ask a ^a");
        s.put("ask a b");
        s.due("more: -2", s.x.more(0, 7), -2);
        s.due("tell: -2", s.x.tell(21), -2);
        s.due("law: -2", s.x.law(-1), -2);
        s.due("clause: -2", s.x.clause(21), -2);
        s.due("stays", s.x.fault(), 6);
        s.due("and stays", s.x.fault(), 6);
        s.x.image();
        s.x.back(0);
        s.x.feed(0, 0, 0, 0, 0);
        s.due("stays by others", s.x.fault(), 6);
        s.x.law(0);
        s.due("none", s.x.fault(), -1);
        for (int i = 0; i < 16; i++) {
            s.tell(ASK);
            if (i < 7) {
                s.x.law(0);
            }
            if (i < 6) {
                s.clause("no sent;");
            }
        }
        s.badMore(0, "ask a b ^");
        s.due("tell: -3", s.x.tell(0), -3);
        s.due("law: -3", s.x.law(0), -3);
        s.due("clause: -3", s.x.clause(0), -3);
        s.due("stays", s.x.fault(), 8);
        s.due("more", s.more(0, ASK), 2);
        s.due("none", s.x.fault(), -1);
        Script t = new Script("Promise 7, each of the four");
        t.badCase("^sold");
        t.tell(ASK);
        t.due("none by tell", t.x.fault(), -1);
        t.badLaw("no ^7");
        t.x.law(0);
        t.due("none by law", t.x.fault(), -1);
        t.badClause("no sent;no ^7");
        t.clause("no sent;");
        t.due("none by clause", t.x.fault(), -1);
        t.badMore(0, "ask ^7");
        t.more(0, ASK);
        t.due("none by more", t.x.fault(), -1);
    }

    private static void promise8() {
        Script s = full("Promise 8: to whom (offer, ask, yes with but;"
                + " else NONE), SAID, \"hold\", \"given\", WORD (NONE)");
        s.tell("offer b c price 0 court 999 hold 0 given 0 post at 1 after 1;ask c b wire at 1 after 1;"
                + "yes c 0 mouth at 2;"
                + "yes c 0 but port 5 deed at 3;no c 0 mouth at 4;back c 3 mouth at 5;deed c 0 mouth at 6;"
                        + "send b 0 mouth at 7;");
        int[][] due = {{0, 1, 2, -1, 0, 0, 0, 0, -1, -1, -1, 999}, {1, 2, 1, -1, 1, -1, -1, -1, -1, -1, -1, -1},
            {2, 2, -1, 0, 2, -1, -1, -1, -1, -1, -1, -1}, {3, 2, 1, 0, 3, -1, -1, -1, -1, -1, 5, -1},
            {4, 2, -1, 0, 2, -1, -1, -1, -1, -1, -1, -1}, {5, 2, -1, 3, 2, -1, -1, -1, -1, -1, -1, -1},
            {6, 2, -1, 0, 2, -1, -1, -1, -1, -1, -1, -1}, {7, 1, -1, 0, 2, -1, -1, -1, -1, -1, -1, -1}};
        for (int k = 0; k < 8; k++) {
            for (int i = 0; i < 12; i++) {
                int what = i < 7 ? i : i + 3;
                s.due("saying(" + CASES + ", " + k + ", " + what + ")", s.x.saying(CASES, k, what), due[k][i]);
            }
        }
    }

    private static void promise8Refused() {
        Script s = full("Promise 8: -2: none such");
        Call call = (x, a) -> x.saying(a[0], a[1], a[2]);
        int[] right = {0, 0, 0};
        s.due("right", call.of(s.x, right), 0);
        refused(s, call, -2, right, 0, NO_CASE);
        refused(s, call, -2, right, 1, NO_SAYING);
        refused(s, call, -2, right, 2, -1, 7, 8, 9, 15, 16, MIN, MAX);
        s.due("not LOOKED at matters not", s.x.saying(NOT_LOOKED_AT, 2, 0), 1);
    }

    private static void promise9() {
        Script s = full("Promise 9: 2 COMBOS (NONE: not LOOKED at). -2: none such");
        Call call = (x, a) -> x.asked(a[0], a[1]);
        s.due("SAYINGS", s.x.asked(BARGAIN, 0), SAYINGS);
        s.due("ASKED", s.x.asked(BARGAIN, 1), 3);
        s.due("COMBOS", s.x.asked(BARGAIN, 2), COMBOS);
        s.due("none ASKED", s.x.asked(NO_BARGAIN, 1), 0);
        s.due("one COMBO", s.x.asked(NO_BARGAIN, 2), 1);
        s.due("ASKED, not LOOKED at", s.x.asked(NOT_LOOKED_AT, 1), 3);
        s.due("not LOOKED at", s.x.asked(NOT_LOOKED_AT, 2), -1);
        refused(s, call, -2, new int[] {0, 0}, 0, NO_CASE);
        refused(s, call, -2, new int[] {0, 0}, 1, -1, 3, MIN, MAX);
    }

    private static void promise10() {
        Script s = full("Promise 10: (NONE: never). -2: none such, not LOOKED at");
        Call call = (x, a) -> x.hour(a[0], a[1], a[2], a[3]);
        int[] right = {BARGAIN, COMBOS - 1, SAYINGS - 1, 2};
        s.due("right", call.of(s.x, right), 25);
        s.due("never", s.x.hour(BARGAIN, COMBOS - 1, 0, 1), -1);
        s.due("never", s.x.hour(BARGAIN, COMBOS - 1, 0, 2), -1);
        s.due("sent", s.x.hour(BARGAIN, COMBOS - 1, 0, 0), 12);
        refused(s, call, -2, right, 0, NO_CASE);
        refused(s, call, -2, right, 0, NOT_LOOKED_AT);
        refused(s, call, -2, new int[] {NOT_LOOKED_AT, 0, 0, 0}, 1, 0, 1, -1);
        refused(s, call, -2, right, 1, NO_COMBO);
        refused(s, call, -2, right, 2, NO_SAYING);
        refused(s, call, -2, right, 3, -1, 3, MIN, MAX);
    }

    private static void promise11() {
        Script s = full("Promise 11: 7 lapse, 8 silence (NONE: none). -2: none such");
        Call call = (x, a) -> x.rule(a[0], a[1]);
        s.due("no lapse", s.x.rule(0, 7), -1);
        s.due("no silence", s.x.rule(0, 8), -1);
        s.due("silence", s.x.rule(1, 8), 3);
        s.due("RULES", s.x.rule(1, 13), 3);
        refused(s, call, -2, new int[] {1, 13}, 0, NO_LAW);
        refused(s, call, -2, new int[] {1, 13}, 1, -1, 14, MIN, MAX);
    }

    private static void promise12() {
        Script s = full("Promise 12: (NONE: by silence), (NONE: none). -3: none such, not LOOKED at");
        Call call = (x, a) -> x.run(a[0], a[1], a[2], a[3]);
        int[] right = {BARGAIN, 0, 5, 2};
        s.due("right", call.of(s.x, right), 21);
        s.due("price", s.x.run(BARGAIN, 0, 5, 10), 7);
        s.due("no court", s.x.run(BARGAIN, 0, 5, 14), -1);
        s.due("by silence", s.x.run(BY_SILENCE, 1, 0, 0), -1);
        s.due("the OFFER", s.x.run(BY_SILENCE, 1, 0, 1), 0);
        refused(s, call, -3, right, 0, NO_CASE);
        refused(s, call, -3, right, 0, NOT_LOOKED_AT);
        refused(s, call, -3, new int[] {NOT_LOOKED_AT, 0, 0, 0}, 2, 0, 1, -1);
        refused(s, call, -3, right, 1, NO_LAW);
        refused(s, call, -3, right, 2, NO_COMBO);
        refused(s, call, -3, right, 3, -1, 3, 9, 15, MIN, MAX);
    }

    private static void promise12NoBargain() {
        Script s = full("Promise 12: -2: no bargain");
        for (int what : new int[] {0, 1, 2, 10, 11, 12, 13, 14}) {
            s.due("none, what " + what, s.x.run(NO_BARGAIN, 0, 0, what), -2);
            s.due("the OFFER lost, what " + what, s.x.run(BARGAIN, 0, 6, what), -2);
        }
        refused(s, (x, a) -> x.run(a[0], a[1], a[2], a[3]), -3, new int[] {NO_BARGAIN, 0, 0, 0}, 2, -1, 1);
    }

    private static void promise13() {
        Script s = full("Promise 13: -2: none such, not LOOKED at");
        Call call = (x, a) -> x.open(a[0], a[1], a[2], a[3], a[4]);
        int[] right = {BARGAIN, 0, 5, 0, 1};
        s.due("right", call.of(s.x, right), 30);
        refused(s, call, -2, right, 0, NO_CASE);
        refused(s, call, -2, right, 0, NOT_LOOKED_AT, NO_BARGAIN);
        refused(s, call, -2, right, 1, NO_LAW);
        refused(s, call, -2, right, 2, NO_COMBO);
        refused(s, call, -2, right, 3, NO_SAYING);
        refused(s, call, -2, right, 3, 1, 2, 3, 4);
        refused(s, call, -2, right, 4, -1, 3, MIN, MAX);
        s.tell("offer a b mouth at 1;yes b 0 but port 1 mouth at 2;");
        s.due("a yes with but", s.x.open(CASES, 0, 0, 1, 0), 2);
        s.due("if it isn't SMALL", s.x.open(CASES, 1, 0, 1, 0), -2);
    }

    private static void promise13NeverAndNot() {
        Script s = full("Promise 13: NONE: never; 9,999: not; why 0 not");
        s.due("never", s.x.open(BARGAIN, 0, COMBOS - 1, 0, 0), -1);
        s.due("from", s.x.open(BY_SILENCE, 0, 0, 0, 0), 1);
        s.due("not", s.x.open(BY_SILENCE, 0, 0, 0, 1), 9999);
        s.due("why", s.x.open(BY_SILENCE, 0, 0, 0, 2), 0);
    }

    private static void promise14() {
        Script s = full("Promise 14: 0: no bargain. -2: none such, not LOOKED at");
        Call call = (x, a) -> x.binds(a[0], a[1], a[2]);
        int[] right = {BARGAIN, 0, 5};
        s.due("right", call.of(s.x, right), 3);
        s.due("by silence", s.x.binds(BY_SILENCE, 1, 0), 5);
        s.due("no bargain", s.x.binds(NO_BARGAIN, 0, 0), 0);
        s.due("no bargain", s.x.binds(BARGAIN, 0, COMBOS - 1), 0);
        refused(s, call, -2, right, 0, NO_CASE);
        refused(s, call, -2, right, 0, NOT_LOOKED_AT);
        refused(s, call, -2, new int[] {NOT_LOOKED_AT, 0, 0}, 2, 0, -1);
        refused(s, call, -2, right, 1, NO_LAW);
        refused(s, call, -2, right, 2, NO_COMBO);
    }

    private static void promise15() {
        Script s = full("Promise 15: -2: none such, not LOOKED at");
        Call call = (x, a) -> x.sure(a[0], a[1], a[2]);
        int[] right = {BARGAIN, 0, 0};
        s.due("right", call.of(s.x, right), 6);
        refused(s, call, -2, right, 2, -1, 5, MIN, MAX);
        for (int what = 0; what < 5; what++) {
            Script t = full("Promise 15, what " + what);
            refused(t, call, -2, new int[] {0, 0, what}, 0, NO_CASE);
            refused(t, call, -2, new int[] {0, 0, what}, 0, NOT_LOOKED_AT);
            refused(t, call, -2, new int[] {0, 0, what}, 1, NO_LAW);
        }
    }

    private static void promise15AllAndNone() {
        Script s = full("Promise 15: the first with one (NONE), the first without (NONE), the least hour (NONE), the greatest (NONE)");
        int[] some = {6, 0, 6, 21, 21};
        int[] none = {0, -1, 0, -1, -1};
        int[] all = {1, 0, -1, 4, 4};
        for (int what = 0; what < 5; what++) {
            s.due("some, what " + what, s.x.sure(BARGAIN, 0, what), some[what]);
            s.due("none, what " + what, s.x.sure(NO_BARGAIN, 0, what), none[what]);
            s.due("all, what " + what, s.x.sure(BY_SILENCE, 1, what), all[what]);
        }
        s.tell("offer a b mouth at 5;yes b 0 mouth at 4 to 7;");
        int[] late = {3, 1, 0, 5, 7};
        s.tell("offer a b mouth at 0 to 15;yes b 0 mouth at 14;");
        int[] last = {15, 0, 15, 14, 14};
        s.tell("offer a b mouth at 0;yes b 0 mouth at 0 to 1;");
        int[] zero = {2, 0, -1, 0, 1};
        s.tell("offer a b mouth at 5;yes b 0 mouth at 6 to 8;back b 1 mouth at 7;");
        int[] first = {2, 0, 2, 6, 7};
        s.tell("offer a b mouth at 1;yes b 0 mouth at 5;back b 1 post at 1 after 1 lost;yes b 0 mouth at 20;");
        int[] down = {2, 0, -1, 5, 20};
        for (int what = 0; what < 5; what++) {
            s.due("not the first, what " + what, s.x.sure(CASES, 0, what), late[what]);
            s.due("not the last, what " + what, s.x.sure(CASES + 1, 0, what), last[what]);
            s.due("hour 0, what " + what, s.x.sure(CASES + 2, 0, what), zero[what]);
            s.due("the first, what " + what, s.x.sure(CASES + 3, 0, what), first[what]);
            s.due("the greatest first, what " + what, s.x.sure(CASES + 4, 0, what), down[what]);
        }
    }

    private static void promise16() {
        Script s = full("Promise 16: -2: none such, not LOOKED at, more than 12");
        Call call = (x, a) -> x.hang(a[0], a[1]);
        s.due("right", s.x.hang(BARGAIN, 0), 4);
        s.due("on nothing", s.x.hang(NO_BARGAIN, 0), 0);
        refused(s, call, -2, new int[] {0, 0}, 0, NO_CASE);
        refused(s, call, -2, new int[] {0, 0}, 0, NOT_LOOKED_AT);
        refused(s, call, -2, new int[] {0, 0}, 1, NO_LAW);
        s.tell(Script.times("ask a b post at 1 to 1 after 1 to 1 read 1 to 1;", 4));
        s.due("12", s.x.hang(CASES, 0), 0);
        s.more(CASES, "ask a b deed at 1 to 1;");
        s.due("13", s.x.hang(CASES, 0), -2);
    }

    private static void promise17() {
        Script s = full("Promise 17: NONE: there is no bargain. -2: none such, not LOOKED at, hour below 0");
        Call call = (x, a) -> x.bears(a[0], a[1], a[2], a[3]);
        int[] right = {BARGAIN, 0, 5, 21};
        s.due("right", call.of(s.x, right), 1);
        s.due("hour 0", s.x.bears(BARGAIN, 0, 5, 0), 0);
        s.due("any hour", s.x.bears(BARGAIN, 0, 5, MAX), 1);
        s.due("no bargain", s.x.bears(NO_BARGAIN, 0, 0, 0), -1);
        s.due("no bargain", s.x.bears(BARGAIN, 0, COMBOS - 1, 99), -1);
        refused(s, call, -2, right, 0, NO_CASE);
        refused(s, call, -2, right, 0, NOT_LOOKED_AT);
        refused(s, call, -2, right, 1, NO_LAW);
        refused(s, call, -2, right, 2, NO_COMBO);
        refused(s, call, -2, right, 3, -1, MIN);
        refused(s, call, -2, new int[] {NO_BARGAIN, 0, 0, 0}, 3, -1, MIN);
    }

    private static void promise18() {
        Script s = full("Promise 18: -2: none such, not LOOKED at");
        Call call = (x, a) -> x.judge(a[0], a[1], a[2], a[3], a[4]);
        int[] right = {BARGAIN, 0, 5, 1, 21};
        s.due("right", call.of(s.x, right), -1);
        refused(s, call, -2, right, 0, NO_CASE);
        refused(s, call, -2, right, 0, NOT_LOOKED_AT);
        refused(s, call, -2, right, 1, NO_LAW);
        refused(s, call, -2, right, 2, NO_COMBO);
        refused(s, call, -2, new int[] {CASES, 0, 0, -2, 0}, 3, -2, -1, 0);
    }

    private static void promise18Told() {
        Script s = full("Promise 18: NONE: it's right; 0 whether there is one isn't; 1 the YES isn't;"
                + " 2 the hour isn't");
        s.due("right", s.x.judge(BARGAIN, 0, 5, 1, 21), -1);
        s.due("there is one", s.x.judge(BARGAIN, 0, 5, -2, 21), 0);
        s.due("not by silence", s.x.judge(BARGAIN, 0, 5, -1, 21), 1);
        s.due("not that YES", s.x.judge(BARGAIN, 0, 5, 0, 21), 1);
        s.due("the YES ahead of the hour", s.x.judge(BARGAIN, 0, 5, 2, 20), 1);
        s.due("an hour early", s.x.judge(BARGAIN, 0, 5, 1, 20), 2);
        s.due("an hour late", s.x.judge(BARGAIN, 0, 5, 1, 22), 2);
        s.due("no hour", s.x.judge(BARGAIN, 0, 5, 1, MIN), 2);
        s.due("by silence", s.x.judge(BY_SILENCE, 1, 0, -1, 4), -1);
        s.due("by silence, late", s.x.judge(BY_SILENCE, 1, 0, -1, 5), 2);
        s.due("by silence, not by a YES", s.x.judge(BY_SILENCE, 1, 0, 0, 4), 1);
        s.due("none", s.x.judge(NO_BARGAIN, 0, 0, -2, 0), -1);
        s.due("none, at any hour", s.x.judge(NO_BARGAIN, 0, 0, -2, MAX), -1);
        s.due("there is none", s.x.judge(NO_BARGAIN, 0, 0, -1, 0), 0);
        s.due("there is none", s.x.judge(NO_BARGAIN, 0, 0, 0, 0), 0);
        s.due("there is none", s.x.judge(NO_BARGAIN, 0, 0, MAX, 0), 0);
    }

    private static void promise19() {
        Script s = full("Promise 19: the first (1; NONE). -2: none such, not LOOKED at");
        Call call = (x, a) -> x.apart(a[0], a[1], a[2], a[3]);
        s.due("how many", s.x.apart(BY_SILENCE, 0, 1, 0), 1);
        s.due("the first", s.x.apart(BY_SILENCE, 0, 1, 1), 0);
        s.due("none", s.x.apart(NO_BARGAIN, 0, 1, 0), 0);
        s.due("no first", s.x.apart(NO_BARGAIN, 0, 1, 1), -1);
        refused(s, call, -2, new int[] {0, 0, 1, 0}, 3, -1, 2, MIN, MAX);
        for (int what = 0; what < 2; what++) {
            Script t = full("Promise 19, what " + what);
            int[] right = {BY_SILENCE, 0, 1, what};
            refused(t, call, -2, right, 0, NO_CASE);
            refused(t, call, -2, right, 0, NOT_LOOKED_AT);
            refused(t, call, -2, right, 1, NO_LAW);
            refused(t, call, -2, right, 2, NO_LAW);
        }
    }

    private static void promise20() {
        Script s = full("Promise 20: NONE: none; -2: no such LAWS");
        Call call = (x, a) -> x.part(a[0], a[1]);
        s.due("right", s.x.part(0, 1), BY_SILENCE);
        s.due("with itself", s.x.part(1, 1), -1);
        refused(s, call, -2, new int[] {0, 1}, 0, NO_LAW);
        refused(s, call, -2, new int[] {0, 1}, 1, NO_LAW);
        Script t = new Script("Promise 20, without CASES");
        t.due("no LAWS", t.x.part(0, 0), -2);
        t.x.law(0);
        t.due("none", t.x.part(0, 0), -1);
        t.due("one of them", t.x.part(0, 1), -2);
    }

    private static void promise21() {
        Script s = full("Promise 21: NONE: none. -2: none such, not LOOKED at, no LAWS");
        s.due("none", s.x.write(NO_BARGAIN), -1);
        refused(s, (x, a) -> x.write(a[0]), -2, new int[] {0}, 0, NO_CASE);
        refused(s, (x, a) -> x.write(a[0]), -2, new int[] {0}, 0, NOT_LOOKED_AT);
        s.clause("silence 0;");
        s.due("one", s.x.write(BY_SILENCE), 1);
        Script t = new Script("Promise 21, no LAWS");
        t.tell("offer a b mouth at 1;yes b 0 mouth at 2;");
        t.clause("silence 0;");
        t.due("no LAWS", t.x.write(0), -2);
        t.x.law(0);
        t.due("none needed", t.x.write(0), 0);
        t.x.image();
        t.due("no such CASE", t.x.write(1), -2);
    }

    private static void promise22() {
        Script s = full("Promise 22: -2: none such, not LOOKED at");
        Call call = (x, a) -> x.does(a[0], a[1], a[2], a[3]);
        int[] right = {BARGAIN, 0, 5, 1};
        s.due("right", call.of(s.x, right), 4);
        refused(s, call, -2, right, 0, NO_CASE);
        refused(s, call, -2, right, 0, NOT_LOOKED_AT);
        refused(s, call, -2, right, 1, NO_LAW);
        refused(s, call, -2, right, 2, NO_COMBO);
        refused(s, call, -2, right, 3, NO_SAYING);
    }

    private static void promise23() {
        Script s = full("Promise 23: -2: none such, not LOOKED at, hour not 0 to 9,998");
        Call call = (x, a) -> x.can(a[0], a[1], a[2], a[3], a[4]);
        int[] right = {BARGAIN, 0, 5, 1, 20};
        s.due("right", call.of(s.x, right), 2);
        s.due("hour 0", s.x.can(BARGAIN, 0, 5, 1, 0), 0);
        s.due("hour 9,998", s.x.can(BY_SILENCE, 0, 0, 2, 9998), 1);
        refused(s, call, -2, right, 0, NO_CASE);
        refused(s, call, -2, right, 0, NOT_LOOKED_AT);
        refused(s, call, -2, right, 1, NO_LAW);
        refused(s, call, -2, right, 2, NO_COMBO);
        refused(s, call, -2, right, 3, NO_HAND);
        refused(s, call, -2, right, 4, -1, 9999, MIN, MAX);
    }

    private static void promise24() {
        Script s = full("Promise 24: NONE: never. -2: none such, not LOOKED at");
        Call call = (x, a) -> x.until(a[0], a[1], a[2], a[3], a[4]);
        int[] right = {BARGAIN, 0, 5, 1, 2};
        s.due("right", call.of(s.x, right), 20);
        s.due("never", s.x.until(BARGAIN, 0, 5, 1, 1), -1);
        s.due("never", s.x.until(NO_BARGAIN, 0, 0, 0, 1), -1);
        s.due("c's", s.x.until(BY_SILENCE, 0, 0, 2, 1), 9998);
        refused(s, call, -2, right, 0, NO_CASE);
        refused(s, call, -2, right, 0, NOT_LOOKED_AT);
        refused(s, call, -2, right, 1, NO_LAW);
        refused(s, call, -2, right, 2, NO_COMBO);
        refused(s, call, -2, right, 3, NO_HAND);
        refused(s, call, -2, right, 4, -1, 0, 3, MIN, MAX);
    }

    private static void promise25() {
        Script s = full("Promise 25: -2: none such, not by post or wire, not LOOKED at then");
        Call call = (x, a) -> x.lost(a[0], a[1], a[2]);
        int[] right = {BARGAIN, 0, 1};
        s.due("by wire", call.of(s.x, right), 0);
        s.due("by post", s.x.lost(BARGAIN, 0, 0), 0);
        refused(s, call, -2, right, 0, NO_CASE);
        refused(s, call, -2, right, 1, NO_LAW);
        refused(s, call, -2, right, 2, NO_SAYING);
        refused(s, call, -2, right, 2, 2, 3, 4);
        refused(s, call, -2, new int[] {NOT_LOOKED_AT, 0, 2}, 2, 0, 2);
        s.tell("ask a b deed at 1;ask a b post at 0 to 15 after 0 to 15 read 0 to 3 lost;");
        s.due("by deed", s.x.lost(CASES, 0, 0), -2);
        s.due("not LOOKED at", s.x.asked(CASES, 2), -1);
        s.due("but then", s.x.lost(CASES, 0, 1), 0);
    }

    private static void promise26() {
        Script s = full("Promise 26: -2: none such, not LOOKED at then");
        Call call = (x, a) -> x.wired(a[0], a[1], a[2]);
        int[] right = {BARGAIN, 0, 1};
        s.due("right", call.of(s.x, right), 6);
        s.due("the OFFER", s.x.wired(BARGAIN, 0, 0), 3);
        s.due("by mouth, too", s.x.wired(BARGAIN, 0, 2), 6);
        refused(s, call, -2, right, 0, NO_CASE);
        refused(s, call, -2, right, 1, NO_LAW);
        refused(s, call, -2, right, 2, NO_SAYING);
        refused(s, call, -2, new int[] {NOT_LOOKED_AT, 0, 0}, 2, 0, 1);
        s.due("but then", s.x.wired(NOT_LOOKED_AT, 0, 2), 16);
        s.tell("offer a b deed at 1;yes b 0 mouth at 2;");
        s.due("by deed, too", s.x.wired(CASES, 0, 0), 1);
    }

    private static void promise27() {
        Script s = full("Promise 27: its number. NONE: 4 are there");
        for (int i = 0; i < 4; i++) {
            s.due("its number", s.x.image(), i);
        }
        String state = s.state();
        s.due("the fifth", s.x.image(), -1);
        s.due("the sixth", s.x.image(), -1);
        s.sameState("the fifth", state);
    }

    private static void promise28() {
        Script s = full("Promise 28: as in an IMAGE: true; false: none such");
        s.x.image();
        String state = s.state();
        Call call = (x, a) -> x.back(a[0]) ? 1 : 0;
        s.tell(ASK);
        refused(s, call, 0, new int[] {0}, 0, -1, 1, 2, 3, 4, MIN, MAX);
        s.due("true", s.x.back(0) ? 1 : 0, 1);
        s.sameState("as in the IMAGE", state);
        s.badLaw("no ^");
        s.put(ASK);
        s.x.back(0);
        s.due("the tape stays", s.x.count(3), 20);
        s.due("the FAULT stays", s.x.fault(), 3);
        s.due("the IMAGES stay", s.x.count(5), 1);
    }

    private static void promise29() {
        Script s = full("Promise 29: NONE for others");
        s.clause("no sent;");
        s.x.image();
        s.put(ASK);
        int[] due = {CASES, LAWS, 1, 20, SAYINGS + 1 + 3 + 1, 1};
        for (int what = 0; what < due.length; what++) {
            s.due("count(" + what + ")", s.x.count(what), due[what]);
        }
        for (int what : new int[] {-1, 6, 7, MIN, MAX}) {
            s.due("count(" + what + ")", s.x.count(what), -1);
        }
        s.x.more(0, 19);
        s.due("SAYINGS in all", s.x.count(4), due[4] + 1);
        s.badCase(ASK + "^~");
        s.due("none of a FAULT", s.x.count(4), due[4] + 1);
    }
}
