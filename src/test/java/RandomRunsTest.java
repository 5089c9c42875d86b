import java.util.ArrayList;
import java.util.Arrays;
import java.util.List;
import java.util.Random;

/** Runs of calls drawn from fixed seeds, on the class and on the plain model: they must answer alike. */
public final class RandomRunsTest {
    private static final int RUNS = 400;
    private static final int CALLS = 500;

    private final Random random;
    private final CrossingWords real = new CrossingWords();
    private final PlainModel plain = new PlainModel();
    private final List<String> story = new ArrayList<>();
    private int calls = 0;
    private boolean wrong = false;

    private RandomRunsTest(long seed) {
        random = new Random(seed);
    }

    public static void main(String[] args) {
        int wrongRuns = 0;
        int runs = args.length > 0 ? Integer.parseInt(args[0]) : RUNS;
        for (int seed = 0; seed < runs && wrongRuns < 3; seed++) {
            RandomRunsTest run = new RandomRunsTest(seed);
            run.go();
            if (run.wrong) {
                wrongRuns++;
                System.out.println("seed " + seed + ":");
                run.story.forEach(line -> System.out.println("  " + line));
            }
        }
        System.out.println(wrongRuns == 0 ? "random runs answer alike" : "random runs do not answer alike");
        if (wrongRuns != 0) {
            System.exit(1);
        }
    }

    private void go() {
        while (calls < CALLS && !wrong) {
            switch (pick(24)) {
                case 0:
                case 1:
                    if (plain.count(0) < 16 || one(10)) {
                        tellText("tell", caseText(new ArrayList<>()));
                    }
                    break;
                case 2:
                    tellMore();
                    break;
                case 3:
                case 4:
                    if (plain.count(1) < 8 || one(10)) {
                        tellText("law", lawText(pick(5)));
                    }
                    break;
                case 5:
                    if (one(3)) {
                        tellText("clause", lawText(1 + pick(2)));
                    }
                    break;
                case 6:
                    if (one(4)) {
                        ask(one(3) ? "image" : "back", pick(5) - 1);
                    }
                    break;
                default:
                    askAround();
                    break;
            }
        }
    }

    private int pick(int below) {
        return random.nextInt(below);
    }

    private boolean one(int of) {
        return pick(of) == 0;
    }

    // ---- texts

    /** What a text that is being made must know of its SAYINGS: kind, hand, to whom. */
    private record Said(int kind, int hand, int to) {
    }

    private static final String[] HANDS = {"a", "b", "c"};
    private static final String[] WORDS = {"price", "much", "day", "port", "court"};

    private String caseText(List<Said> ahead) {
        StringBuilder text = new StringBuilder();
        int many = one(30) ? 13 : 1 + pick(6);
        for (int i = 0; i < many; i++) {
            text.append(sayingText(ahead)).append(blank());
        }
        return text.toString();
    }

    private String blank() {
        return one(10) ? "\n" : one(10) ? "  " : "";
    }

    private String sayingText(List<Said> ahead) {
        for (int turn = 0; turn < 20 && !ahead.isEmpty(); turn++) {
            int said = pick(ahead.size());
            Said s = ahead.get(said);
            boolean offer = s.kind() == 0 || s.kind() == 3;
            switch (pick(12)) {
                case 0:
                case 1:
                case 2:
                    if (offer) {
                        return yesText(ahead, said, s);
                    }
                    break;
                case 3:
                    if (offer) {
                        return plainText(ahead, "no", 4, s.to(), said);
                    }
                    break;
                case 4:
                case 5:
                    if (offer || s.kind() == 2) {
                        return plainText(ahead, "back", 5, s.hand(), said);
                    }
                    break;
                case 6:
                    if (offer) {
                        return plainText(ahead, "deed", 6, s.to(), said);
                    }
                    break;
                case 7:
                    if (offer) {
                        return plainText(ahead, "send", 7, s.hand(), said);
                    }
                    break;
                case 8:
                    turn = 20;
                    break;
                default:
                    break;
            }
        }
        int hand = pick(3);
        int to = (hand + 1 + pick(2)) % 3;
        if (one(12)) {
            ahead.add(new Said(1, hand, to));
            return "ask " + HANDS[hand] + " " + HANDS[to] + " " + times(ahead) + ";";
        }
        ahead.add(new Said(0, hand, to));
        String words = "";
        for (int i = pick(4); i > 0; i--) {
            words += WORDS[pick(5)] + " " + pick(4) + " ";
        }
        String hold = one(3) ? "hold " + pick(40) + " " : "";
        String given = one(8) ? "given " + pick(Math.max(plain.count(0), 1)) + " " : "";
        return "offer " + HANDS[hand] + " " + HANDS[to] + " " + words + hold + given + times(ahead) + ";";
    }

    private String yesText(List<Said> ahead, int said, Said s) {
        String but = "";
        if (one(2)) {
            ahead.add(new Said(3, s.to(), s.hand()));
            but = "but ";
            for (int i = 1 + pick(2); i > 0; i--) {
                but += WORDS[one(3) ? pick(5) : 3 + pick(2)] + " " + pick(4) + " ";
            }
        } else {
            ahead.add(new Said(2, s.to(), -1));
        }
        return "yes " + HANDS[s.to()] + " " + said + " " + but + times(ahead) + ";";
    }

    private String plainText(List<Said> ahead, String verb, int kind, int hand, int said) {
        ahead.add(new Said(kind, hand, -1));
        return verb + " " + HANDS[hand] + " " + said + " " + times(ahead) + ";";
    }

    /** Mostly each SAYING some hours behind those ahead of it: else hardly a YES would find its OFFER open. */
    private String times(List<Said> ahead) {
        int base = one(6) ? pick(30) : 4 * ahead.size();
        if (one(3)) {
            return (one(2) ? "mouth" : "deed") + " at " + span(base, 12);
        }
        return (one(2) ? "post" : "wire") + " at " + span(base, 8) + " after " + span(0, 8) + (one(3) ? " read " + span(0, 8) : "")
                + (one(6) ? " lost" : "");
    }

    private String span(int base, int below) {
        int first = base + pick(below);
        return one(6) ? first + " to " + (first + pick(one(8) ? 16 : 3)) : "" + first;
    }

    private String lawText(int rules) {
        StringBuilder text = new StringBuilder();
        int many = one(40) ? 20 + pick(2) : rules;
        for (int i = 0; i < many; i++) {
            text.append(ruleText()).append(";").append(blank());
        }
        return text.toString();
    }

    private String ruleText() {
        String[] whens = {"sent", "come", "read"};
        String when = whens[pick(3)];
        switch (pick(13)) {
            case 0:
            case 1:
                return "yes " + new String[] {"post", "wire", "mouth", "all"}[pick(4)] + " " + when;
            case 2:
                return "offer " + when;
            case 3:
                return "back " + when;
            case 4:
                return "no " + when;
            case 5:
                return "hold " + (one(3) ? "free" : "binds");
            case 6:
                return "lapse " + pick(25);
            case 7:
                return "silence " + pick(10);
            case 8:
            case 9:
                return "but " + (one(4) ? "no" : "small");
            case 10:
                return "form " + new String[] {"first", "last", "none"}[pick(3)];
            case 11:
                return "deed " + (one(4) ? "none" : "yes");
            default:
                return "risk " + new String[] {"bargain", "sent", "come"}[pick(3)];
        }
    }

    private String spoil(String text) {
        if (text.isEmpty()) {
            return "x";
        }
        int at = pick(text.length());
        String[] junk = {"", "9", ";", " ", "x", "A", "to 3 ", " 99999 ", " lost ", " but ", "\t", "\n", "~", "\u00e9"};
        switch (pick(3)) {
            case 0:
                return text.substring(0, at);
            case 1:
                return text.substring(0, at) + junk[pick(junk.length)] + text.substring(at);
            default:
                return text.substring(0, at) + junk[pick(junk.length)] + text.substring(at + 1);
        }
    }

    private void tellText(String call, String good) {
        String text = one(7) ? spoil(good) : good;
        put(text);
        ask(call, one(30) ? pick(60) - 5 : text.length());
        ask("fault");
    }

    private void tellMore() {
        if (plain.count(0) == 0) {
            return;
        }
        int number = pick(plain.count(0));
        List<Said> ahead = new ArrayList<>();
        for (int k = 0; k < plain.asked(number, 0); k++) {
            ahead.add(new Said(plain.saying(number, k, 0), plain.saying(number, k, 1), plain.saying(number, k, 2)));
        }
        String text = one(20) ? "" : sayingText(ahead);
        String told = one(7) ? spoil(text) : text;
        put(told);
        ask("more", one(30) ? pick(20) - 2 : number, told.length());
        ask("fault");
    }

    private void put(String text) {
        for (int i = 0; i < text.length(); i += 20) {
            int[] five = new int[5];
            for (int j = 0; j < 20; j++) {
                int sign = i + j < text.length() ? text.charAt(i + j) : ' ';
                five[j / 4] = five[j / 4] << 8 | sign & 255;
            }
            ask("feed", five);
        }
    }

    // ---- questions

    private int off(int below) {
        return one(40) ? pick(20) - 3 : pick(Math.max(below, 1));
    }

    private void askAround() {
        int number = off(plain.count(0));
        int law = off(plain.count(1));
        int other = off(plain.count(1));
        int combo = off(plain.asked(number, 2));
        int k = off(plain.asked(number, 0));
        int word = one(3) ? pick(17) - 1 : 10 + pick(5);
        switch (pick(24)) {
            case 0:
                ask("saying", number, k, one(2) ? word : pick(7));
                break;
            case 1:
                ask("asked", number, pick(4) - (one(20) ? 1 : 0));
                break;
            case 2:
                ask("hour", number, combo, k, off(3));
                break;
            case 3:
                ask("rule", law, off(14));
                break;
            case 4:
            case 5:
            case 6:
                ask("run", number, law, combo, one(2) ? pick(3) : word);
                break;
            case 7:
            case 8:
                ask("open", number, law, combo, k, off(3));
                break;
            case 9:
                ask("binds", number, law, combo);
                break;
            case 10:
                ask("sure", number, law, off(5));
                break;
            case 11:
                ask("hang", number, law);
                break;
            case 12:
                ask("bears", number, law, combo, one(20) ? pick(20000) - 20 : pick(60));
                break;
            case 13:
                askJudge(number, law, combo, k);
                break;
            case 14:
                ask("apart", number, law, other, off(2));
                break;
            case 15:
                ask("part", law, other);
                break;
            case 16:
                ask("write", number);
                break;
            case 17:
            case 18:
                ask("does", number, law, combo, k);
                break;
            case 19:
                ask("can", number, law, combo, off(3), one(20) ? pick(12000) - 20 : pick(60));
                break;
            case 20:
                ask("until", number, law, combo, off(3), one(20) ? pick(4) : 1 + pick(2));
                break;
            case 21:
                ask("lost", number, law, k);
                break;
            case 22:
                ask("wired", number, law, k);
                break;
            default:
                ask("count", pick(8) - 1);
                break;
        }
    }

    private void askJudge(int number, int law, int combo, int k) {
        int yes = plain.run(number, law, combo, 0);
        int hour = plain.run(number, law, combo, 2);
        ask("judge", number, law, combo, one(3) ? k - 2 : yes, one(3) ? pick(50) : hour);
    }

    private void ask(String call, int... a) {
        if (wrong) {
            return;
        }
        calls++;
        long due = answer(call, a, true);
        long got = answer(call, a, false);
        story.add(call + Arrays.toString(a) + " = " + due + (got == due ? "" : ", but answered " + got));
        wrong = got != due;
    }

    private long answer(String call, int[] a, boolean ofPlain) {
        CrossingWords x = real;
        PlainModel p = plain;
        boolean m = ofPlain;
        switch (call) {
            case "feed":
                return m ? p.feed(a[0], a[1], a[2], a[3], a[4]) : x.feed(a[0], a[1], a[2], a[3], a[4]);
            case "tell":
                return m ? p.tell(a[0]) : x.tell(a[0]);
            case "more":
                return m ? p.more(a[0], a[1]) : x.more(a[0], a[1]);
            case "law":
                return m ? p.law(a[0]) : x.law(a[0]);
            case "clause":
                return m ? p.clause(a[0]) : x.clause(a[0]);
            case "fault":
                return m ? p.fault() : x.fault();
            case "saying":
                return m ? p.saying(a[0], a[1], a[2]) : x.saying(a[0], a[1], a[2]);
            case "asked":
                return m ? p.asked(a[0], a[1]) : x.asked(a[0], a[1]);
            case "hour":
                return m ? p.hour(a[0], a[1], a[2], a[3]) : x.hour(a[0], a[1], a[2], a[3]);
            case "rule":
                return m ? p.rule(a[0], a[1]) : x.rule(a[0], a[1]);
            case "run":
                return m ? p.run(a[0], a[1], a[2], a[3]) : x.run(a[0], a[1], a[2], a[3]);
            case "open":
                return m ? p.open(a[0], a[1], a[2], a[3], a[4]) : x.open(a[0], a[1], a[2], a[3], a[4]);
            case "binds":
                return m ? p.binds(a[0], a[1], a[2]) : x.binds(a[0], a[1], a[2]);
            case "sure":
                return m ? p.sure(a[0], a[1], a[2]) : x.sure(a[0], a[1], a[2]);
            case "hang":
                return m ? p.hang(a[0], a[1]) : x.hang(a[0], a[1]);
            case "bears":
                return m ? p.bears(a[0], a[1], a[2], a[3]) : x.bears(a[0], a[1], a[2], a[3]);
            case "judge":
                return m ? p.judge(a[0], a[1], a[2], a[3], a[4]) : x.judge(a[0], a[1], a[2], a[3], a[4]);
            case "apart":
                return m ? p.apart(a[0], a[1], a[2], a[3]) : x.apart(a[0], a[1], a[2], a[3]);
            case "part":
                return m ? p.part(a[0], a[1]) : x.part(a[0], a[1]);
            case "write":
                return m ? p.write(a[0]) : x.write(a[0]);
            case "does":
                return m ? p.does(a[0], a[1], a[2], a[3]) : x.does(a[0], a[1], a[2], a[3]);
            case "can":
                return m ? p.can(a[0], a[1], a[2], a[3], a[4]) : x.can(a[0], a[1], a[2], a[3], a[4]);
            case "until":
                return m ? p.until(a[0], a[1], a[2], a[3], a[4]) : x.until(a[0], a[1], a[2], a[3], a[4]);
            case "lost":
                return m ? p.lost(a[0], a[1], a[2]) : x.lost(a[0], a[1], a[2]);
            case "wired":
                return m ? p.wired(a[0], a[1], a[2]) : x.wired(a[0], a[1], a[2]);
            case "image":
                return m ? p.image() : x.image();
            case "back":
                return (m ? p.back(a[0]) : x.back(a[0])) ? 1 : 0;
            default:
                return m ? p.count(a[0]) : x.count(a[0]);
        }
    }
}
