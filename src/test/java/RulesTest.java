import java.io.IOException;
import java.nio.file.Files;
import java.nio.file.Path;
import java.util.Random;
import java.util.regex.Matcher;
import java.util.regex.Pattern;

/** Rules of LANGUAGE.md that a test can see: words in the source, and that no call throws. */
public final class RulesTest {
    private static final String[] FORBIDDEN = {
        "throw", "throws", "try", "catch", "finally", "synchronized", "assert", "protected", "package", "native",
        "volatile", "Exception", "Error", "Random", "System.nanoTime", "System.currentTimeMillis", "System.out",
        "Thread", "HashMap", "Objects", "Exact", "double", "float", "lambda", "native", "hashCode", "toString"};

    public static void main(String[] args) throws IOException {
        String source = Files.readString(Path.of("src/main/java/ThreshedSound.java"));
        for (String word : FORBIDDEN) {
            Matcher found = Pattern.compile("\\b" + Pattern.quote(word) + "\\b").matcher(source);
            Due.is("the word " + word, found.find() ? 1 : 0, 0);
        }
        Due.is("an arrow", source.contains("->") ? 1 : 0, 0);
        Due.is("a method reference", source.contains("::") ? 1 : 0, 0);
        Due.is("objects made by calls: new stands in fields and the constructor alone", newInMethods(source), 0);
        Matcher classes = Pattern.compile("\\b(class|interface|record|enum) [A-Z]").matcher(source);
        int many = 0;
        while (classes.find()) {
            many++;
        }
        Due.is("at most twelve classes", many <= 12 ? 1 : 0, 1);
        Random random = new Random(31);
        for (int run = 0; run < 4000; run++) {
            anyCalls(random, run % 2 == 0 ? new ThreshedSound() : Due.anyFloor(random));
        }
        Due.end();
    }

    private static int newInMethods(String source) {
        int wrong = 0;
        for (String line : source.split("\n")) {
            boolean makes = Pattern.compile("\\bnew\\b [A-Za-z]+[\\[(]").matcher(line).find();
            boolean field = line.matches(" +(final )?[A-Za-z]+(\\[])* [a-zA-Z]+ = new .*");
            boolean constructor = line.matches(" {8}[a-zA-Z]+ = new .*") || line.contains("shelves[i] = new Shelf()");
            wrong += makes && !field && !constructor ? 1 : 0;
        }
        return wrong;
    }

    private static int any(Random random) {
        switch (random.nextInt(12)) {
            case 0: return random.nextInt();
            case 1: return Integer.MIN_VALUE + random.nextInt(3);
            case 2: return Integer.MAX_VALUE - random.nextInt(3);
            case 3: return random.nextInt(300) - 100;
            case 4: return -random.nextInt(3);
            case 5: return random.nextInt(90);
            case 6: return random.nextInt(20);
            default: return random.nextInt(6);
        }
    }

    /** Whatever the machine throws ends this test. */
    private static void anyCalls(Random random, ThreshedSound x) {
        for (int call = 0; call < 350; call++) {
            int a = any(random);
            int b = any(random);
            int c = any(random);
            switch (random.nextInt(45)) {
                case 0: x.man(a); break;
                case 1: x.saying(a, b, c); break;
                case 2: x.mend(a, b, c); break;
                case 3: x.of(a, b); break;
                case 4: x.feed(a); break;
                case 5: x.law(); break;
                case 6: x.reach(a); break;
                case 7: x.plan(a, b); break;
                case 8: x.tone(a, b); break;
                case 9: x.behind(a, b, c); break;
                case 10: x.say(a, b); break;
                case 11: x.can(); break;
                case 12: x.rows(a); break;
                case 13: x.thresh(); break;
                case 14: x.tune(random.nextInt(10) == 0 ? a : -1); break;
                case 15: x.nearest(a, b); break;
                case 16: x.likely(a, b, c); break;
                case 17: x.slips(a, b); break;
                case 18: x.apart(a); break;
                case 19: x.closest(); break;
                case 20: x.begins(a); break;
                case 21: x.meet(a); break;
                case 22: x.first(a); break;
                case 23: x.silent(); break;
                case 24: x.byTurns(a, b, c); break;
                case 25: x.drawn(any(random), a, b, c); break;
                case 26: x.strike(a); break;
                case 27: x.sow(a); break;
                case 28: x.led(a); break;
                case 29: x.image(); break;
                case 30: x.back(); break;
                case 31: x.undo(); break;
                case 32: x.redo(); break;
                case 33: x.body(a); break;
                case 34: x.act(a, b, c); break;
                case 35: x.trace(a); break;
                case 36: x.keep(a, b); break;
                case 37: x.row(a, b, c); break;
                case 38: x.put(a, b, random.nextBoolean() ? c : random.nextLong()); break;
                case 39: x.element(a, b); break;
                case 40: x.shift(a, b, c, any(random), any(random)); break;
                case 41: x.taken(a, b); break;
                case 42: x.count(a); break;
                case 43: x.row(random.nextInt(6), 0, random.nextInt(61)); break;
                default:
                    String law = "tcrmab019!-(()))+*/%<=>&|?;";
                    x.feed(law.charAt(random.nextInt(law.length())));
            }
        }
    }
}
