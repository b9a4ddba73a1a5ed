import java.io.IOException;
import java.lang.reflect.Method;
import java.lang.reflect.Modifier;
import java.nio.file.Files;
import java.nio.file.Path;
import java.util.ArrayList;
import java.util.List;

/** What README.md says of the use of the class is so. It is run from the project's directory. */
public final class ReadmeTest {
    public static void main(String[] args) throws IOException {
        List<String> readme = Files.readAllLines(Path.of("README.md"));
        List<String> source = Files.readAllLines(Path.of("src/test/java/ReadmeTest.java"));
        Due.same("the example", between(readme, "```java", "```"), between(source, "// from here", "// to here"));
        example();
        gramsOfTenths();
        everyCallIsNamed(readme);
        Due.end();
    }

    /** The code of the lines between two marks, without spaces around it and comments behind it. */
    private static List<String> between(List<String> lines, String begin, String end) {
        List<String> found = new ArrayList<>();
        boolean isWithin = false;
        for (String line : lines) {
            String bare = line.trim();
            if (isWithin && bare.equals(end)) {
                return found;
            }
            if (isWithin) {
                found.add(bare.replaceFirst("\\s*//.*", ""));
            }
            isWithin = isWithin || bare.equals(begin);
        }
        return List.of();
    }

    private static void example() {
        // from here
        Chandlery works = new Chandlery();
        int olive = works.fat(3);
        works.row(olive, 0, 1350);
        int recipe = works.recipe(5);
        works.part(recipe, olive, 1);
        works.lot(olive, 500f, 900, 0);
        works.lot(60, 200f, 100, 300);
        int soap = works.batch(1, recipe);
        int fats = works.weigh(soap, olive, 100f);
        int lye = works.lye(recipe, fats, 300);
        works.weigh(soap, 60, lye / 10f);
        works.mix(soap);
        works.mould(0);
        works.pour(soap, 0);
        works.cut(soap, 10, 28);
        int early = works.sell(soap, 10, 250);
        int why = works.status();
        works.day(28);
        int left = works.sell(soap, 10, 250);
        long won = works.count(10) - works.told(soap, 3);
        // to here
        Due.is("olive", olive, 0);
        Due.is("recipe", recipe, 0);
        Due.is("LOTS", works.count(3), 2);
        Due.is("soap", soap, 1);
        Due.is("fats", fats, 1000);
        Due.is("lye", lye, 427);
        Due.is("weight", works.told(soap, 2), 1427);
        Due.is("pieces", works.told(soap, 6), 10);
        Due.is("early", early, Chandlery.NONE);
        Due.is("why", why, 7);
        Due.is("DAY", works.count(0), 28);
        Due.is("left", left, 0);
        Due.is("coins that it bore", works.told(soap, 3), 201);
        Due.is("won", won, 49);
    }

    /** Many objects, as each is used for no more than 512 calls. */
    private static void gramsOfTenths() {
        for (int from = 1; from <= 1_000_000; from += 2_500) {
            Chandlery works = new Chandlery();
            works.fat(1);
            for (int n = from, lot = 1; lot <= 100; lot++, n += 25) {
                works.lot(0, n / 10f, 0, 0);
                Due.is("left(.., 1) of " + n + " TENTHS", works.left(lot, 1), n);
            }
            Due.is("REST", works.count(11), 0);
        }
    }

    private static void everyCallIsNamed(List<String> readme) {
        for (Method m : Chandlery.class.getDeclaredMethods()) {
            if (Modifier.isPublic(m.getModifiers())) {
                String named = "`" + m.getName() + "`";
                boolean isNamed = readme.stream().anyMatch(line -> line.startsWith("|") && line.contains(named));
                Due.is(named + " in the table", isNamed, true);
            }
        }
    }
}
