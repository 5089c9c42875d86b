import java.io.IOException;
import java.lang.reflect.Method;
import java.lang.reflect.Modifier;
import java.nio.file.Files;
import java.nio.file.Path;
import java.util.ArrayList;
import java.util.List;
import java.util.Set;
import java.util.TreeSet;
import java.util.regex.Matcher;
import java.util.regex.Pattern;

/** README.md shows the example that runs here, with the answers that the class gives, and names every call. */
public final class ReadmeTest {
    private static final Path README = Path.of("README.md");
    private static final Path OWN = Path.of("src/test/java/ReadmeTest.java");
    private static int wrong = 0;

    public static void main(String[] args) throws IOException {
        List<String> readme = Files.readAllLines(README);
        List<String> shown = between(readme, "```java", "```");
        List<String> run = between(Files.readAllLines(OWN), "// the example begins", "// the example ends");
        check(!run.isEmpty() && shown.equals(run), "the example of README.md isn't the one of ReadmeTest.java");
        example(shown);
        namesEveryCall(readme);
        System.out.println(wrong == 0 ? "README.md says what holds" : wrong + " faults of README.md");
        if (wrong != 0) {
            System.exit(1);
        }
    }

    private static void check(boolean good, String what) {
        if (!good) {
            wrong++;
            System.out.println("README.md: " + what);
        }
    }

    /** The lines behind the first one that is all "from", up to the next that is all "to". */
    private static List<String> between(List<String> lines, String from, String to) {
        List<String> found = new ArrayList<>();
        boolean inside = false;
        for (String line : lines) {
            String text = line.strip();
            if (inside && text.equals(to)) {
                return found;
            }
            if (inside) {
                found.add(text);
            }
            inside = inside || text.equals(from);
        }
        return new ArrayList<>();
    }

    private static void example(List<String> shown) {
        // the example begins
        CrossingWords x = new CrossingWords();
        String words = "offer a b price 9 post at 10 after 20 to 21; yes b 0 post at 30 to 31 after 5 lost;";
        int sale = x.tell(feed(x, words));                 // 0: the first CASE's number; -1: fault() tells the place
        int come = x.law(feed(x, ""));                     // 0: the LAW with nothing told: a yes counts when it comes
        int sent = x.law(feed(x, "yes post sent;"));       // 1: by this one when it's sent
        int combos = x.asked(sale, 2);                     // 8: 20 or 21, 30 or 31, lost or not
        int hour = x.run(sale, come, 0, 2);                // 35: the bargain's hour in COMBO 0
        int price = x.run(sale, come, 0, 10);              // 9: its price
        int none = x.run(sale, come, 4, 2);                // -2: no bargain in COMBO 4, where the yes is lost
        int earlier = x.run(sale, sent, 4, 2);             // 30: but by the other LAW there is one
        int sure = x.sure(sale, come, 0);                  // 3: COMBOS with a bargain
        int hangs = x.hang(sale, come);                    // 7: bits: it hangs on all three of the ASKED ones
        int parted = x.apart(sale, come, sent, 0);         // 6: COMBOS in which the two LAWS part
        int found = x.more(sale, feed(x, "back a 0 wire at 24 after 1;")); // 3: SAYINGS, with the letter found later
        int left = x.sure(sale, come, 0);                  // 0: the offer had ended by then
        // the example ends
        due(shown, "sale", sale);
        due(shown, "come", come);
        due(shown, "sent", sent);
        due(shown, "combos", combos);
        due(shown, "hour", hour);
        due(shown, "price", price);
        due(shown, "none", none);
        due(shown, "earlier", earlier);
        due(shown, "sure", sure);
        due(shown, "hangs", hangs);
        due(shown, "parted", parted);
        due(shown, "found", found);
        due(shown, "left", left);
    }

    private static int feed(CrossingWords x, String text) {
        for (int i = 0; i < text.length(); i += 20) {
            int[] five = new int[5];
            for (int j = 0; j < 20; j++) {
                int sign = i + j < text.length() ? text.charAt(i + j) : ' ';
                five[j / 4] = five[j / 4] << 8 | sign;
            }
            x.feed(five[0], five[1], five[2], five[3], five[4]);
        }
        return text.length();
    }

    /** The answer that the README tells behind the line on which a name is given. */
    private static void due(List<String> shown, String name, int got) {
        Pattern telling = Pattern.compile("int " + name + " = .*; +// (-?[0-9]+): .*");
        int lines = 0;
        for (String line : shown) {
            Matcher m = telling.matcher(line);
            if (m.matches()) {
                lines++;
                check(Integer.parseInt(m.group(1)) == got, name + " is " + got + ", but README.md says " + m.group(1));
            }
        }
        check(lines == 1, lines + " lines tell " + name);
    }

    private static void namesEveryCall(List<String> readme) {
        Set<String> missing = new TreeSet<>();
        for (Method method : CrossingWords.class.getDeclaredMethods()) {
            if (Modifier.isPublic(method.getModifiers())) {
                missing.add(method.getName());
            }
        }
        for (String line : readme) {
            Matcher m = Pattern.compile("`([a-z]+)\\(").matcher(line);
            while (m.find()) {
                missing.remove(m.group(1));
            }
        }
        check(missing.isEmpty(), "it names no " + missing);
    }
}
