import java.util.ArrayList;
import java.util.List;
import java.util.Random;
import java.util.regex.Matcher;
import java.util.regex.Pattern;

/** Promises 15 and 16: the first wrong byte of many texts, against a reading thing by thing. */
public final class NotesLikeTokensTest {
    private static final Due due = new Due();
    private static final Pattern THING = Pattern.compile("[a-z]+|[0-9]+|[^ ]", Pattern.DOTALL);
    private static final String[] WORDS = {"jar", "oil", "maker", "year", "due"};
    private static final String[] ODD = {"", " ", "   ", "x", "a", "0", "123456", "jar", "due", "-", "\0", "\u00e9", "J"};

    private static boolean canStand(int place, String thing) {
        return place % 2 == 0 ? thing.equals(WORDS[place / 2]) : thing.matches("[0-9]{1,5}");
    }

    private static int firstWrong(String text) {
        Matcher things = THING.matcher(text);
        for (int place = 0; place < 10; place++) {
            if (!things.find()) {
                return text.length();
            }
            if (!canStand(place, things.group())) {
                return things.start();
            }
        }
        return things.find() ? things.start() : -1;
    }

    /** A note, in which now and then something is left out, put in, or put in the place of another. */
    private static String text(Random random) {
        List<String> parts = new ArrayList<>();
        int odds = 4 + random.nextInt(60);
        for (int place = 0; place < 10; place++) {
            String right = place % 2 == 0 ? WORDS[place / 2] : String.valueOf(random.nextInt(100000) >> random.nextInt(17));
            parts.add(random.nextInt(odds) == 0 ? ODD[random.nextInt(ODD.length)] : right);
            parts.add(" ".repeat(random.nextInt(3)));
            if (random.nextInt(odds) == 0) {
                parts.add(ODD[random.nextInt(ODD.length)]);
            }
        }
        String all = " ".repeat(random.nextInt(2)) + String.join("", parts);
        return random.nextInt(4) == 0 ? all.substring(0, random.nextInt(all.length() + 1)) : all;
    }

    public static void main(String[] args) {
        Random random = new Random(23);
        int right = 0;
        for (int round = 0; round < 20000; round++) {
            AmphoraYard x = new AmphoraYard();
            String text = text(random);
            int want = firstWrong(text);
            Texts.write(x, text);
            due.is(text, Due.outcome(() -> x.check(0)), want == -1 ? "1" : "throws java.lang.IllegalArgumentException");
            due.is("fault of: " + text, x.fault(), want);
            due.is("counted: " + text, x.notes(0, false), want == -1 ? 1 : 0);
            right += want == -1 ? 1 : 0;
        }
        due.is("many texts are right", right > 2000 && right < 18000, true);
        due.done();
    }
}
