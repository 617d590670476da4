import java.util.Random;

/** The tape and the law (promises 6 and 7). */
public final class LawTest {
    private static final String NAMES = "tcrmab";
    private static final String LETTERS = "tcrmab0192468!-(()))+*/%<=>&|?;;x \u00e9";

    public static void main(String[] args) {
        tape();
        faults();
        values();
        aFaultKeepsTheLaw();
        anyTexts();
        anyTrees();
        Due.end();
    }

    private static void tape() {
        ThreshedSound x = new ThreshedSound();
        Due.is("feed(-1)", x.feed(-1), -1);
        Due.is("feed(256)", x.feed(256), -1);
        Due.is("feed(255)", x.feed(255), 1);
        Due.is("feed(0)", x.feed(0), 2);
        Due.is("count(2)", x.count(2), 2);
        Due.is("law()", x.law(), -100);
        Due.is("count(2)", x.count(2), 0);
        for (int i = 0; i < 119; i++) {
            Due.is("feed", x.feed(i % 2 == 0 ? 't' : '+'), i + 1);
        }
        Due.is("feed", x.feed(';'), 120);
        Due.is("feed, full", x.feed('t'), -3);
        Due.is("feed(256), full", x.feed(256), -1);
        Due.is("count(2)", x.count(2), 120);
        Due.is("law() ends too early", x.law(), -220);
        Due.is("count(2)", x.count(2), 0);
        Due.is("60 lines", Due.lay(x, "t;".repeat(59) + "t"), 1);
        Due.is("count(3): a law is no change", x.count(3), 0);
    }

    private static void faults() {
        fault("", 0);
        fault(";", 0);
        fault("t", -1);
        fault("t;", 2);
        fault("t;;t", 2);
        fault("0001", -1);
        fault("00010", 4);
        fault("12345", 4);
        fault("t t", 1);
        fault("tt", 1);
        fault("t1", 1);
        fault("1t", 1);
        fault("t<t<t", 3);
        fault("t<t=t", 3);
        fault("(t<t)<t", -1);
        fault("t<t&t<t|t>t", -1);
        fault("t?t?t", 3);
        fault("t?t;t?t", -1);
        fault("t?", 2);
        fault("?t", 0);
        fault("(t?t)", 2);
        fault("(t;t)", 2);
        fault("(t", 2);
        fault("t)", 1);
        fault("()", 1);
        fault("t+", 2);
        fault("t+-t", -1);
        fault("t++t", 2);
        fault("t--t", -1);
        fault("t-----!t", -1);
        fault("!!!!!!t", -1);
        fault("!!!!!!!t", 6);
        fault("------t", -1);
        fault("t-------t", -1);
        fault("t--------t", 8);
        fault("((((((t))))))", -1);
        fault("(((((((t", 6);
        fault("((((((-t", 6);
        fault("((((((t-t", 9);
        fault("((((((t))))))+((((((t))))))", -1);
        fault("!(-(!(t)))", -1);
        fault("!(-(!(!t)))", 6);
        fault("!(-(!(t)!", 8);
        fault("!(-(!t)-!(-t))", -1);
        fault("!(-(!(t-t)-t)-t)-t", -1);
        fault("!t+!t+!t+!t+!t+!t+!t+!t", -1);
        fault("(!t)+(!!!!!t)", -1);
        fault("(!t+!!!!!!t)", 9);
        fault("d", 0);
        fault("T", 0);
        fault("t\n", 1);
        fault("9999*9999", -1);
        fault("t%", 2);
        fault("t%%t", 2);
        fault("t&&t", 2);
        fault("t!t", 1);
        fault("t=!t", -1);
        fault("t==t", 2);
    }

    private static void fault(String text, int place) {
        ThreshedSound x = new ThreshedSound();
        Due.is("fault by hand of " + text, place(text), place);
        Due.is("law " + text, Due.lay(x, text), place < 0 ? 1 : -100 - place);
        Due.is("tape", x.count(2), 0);
    }

    private static void values() {
        loud("9", 9);
        loud("9999", 9);
        loud("-1", 0);
        loud("t", 5);
        loud("c", 4);
        loud("r/2", 7);
        loud("m+1", 1);
        loud("a-8", 3);
        loud("b", 0);
        loud("2+3*2", 8);
        loud("(2+3)*1", 5);
        loud("9-3-2", 4);
        loud("8/3*3", 6);
        loud("9%5*2", 8);
        loud("-7/2+9", 6);
        loud("-7%4+9", 6);
        loud("5/0", 0);
        loud("5%0", 0);
        loud("5/0+3", 3);
        loud("!0", 1);
        loud("!7", 0);
        loud("!!7", 1);
        loud("-!0+4", 3);
        loud("5|0", 1);
        loud("0|0", 0);
        loud("5&2", 1);
        loud("5&0", 0);
        loud("1|0&0", 1);
        loud("0&1|1", 1);
        loud("3<4", 1);
        loud("4<4", 0);
        loud("4=4", 1);
        loud("4>3", 1);
        loud("4>4", 0);
        loud("1+1=2", 1);
        loud("2=2&3=3", 1);
        loud("(3>2)+(2>1)+5", 7);
        loud("0?9;4", 4);
        loud("1?9;4", 9);
        loud("0?9", 0);
        loud("0?9;0?8;7-t?6", 6);
        loud("0?9;0?8;t-5?6", 0);
        loud("3;9", 3);
        loud("0;9", 0);
        loud("-5?3;9", 3);
        loud("9999*9999*9999*9999*9999>0", 9999 * 9999 * 9999 * 9999 * 9999 > 0 ? 1 : 0);
        loud("8192*8192*32<0", 1);
        loud("-(8192*8192*32)<0", 1);
        loud("8192*8192*64+5", 5);
    }

    /** On a floor where t 5, c 4, r 14, m 0, a 11, b 0. */
    private static void loud(String law, int want) {
        ThreshedSound x = new ThreshedSound();
        x.man(6);
        x.mend(6, 0, 5);
        x.mend(6, 1, 4);
        x.mend(0, 6, 14);
        x.mend(0, 4, 11);
        Due.is("law " + law, Due.lay(x, law), 1);
        Due.is("loud by " + law, x.strike(6), want);
    }

    private static void aFaultKeepsTheLaw() {
        ThreshedSound x = new ThreshedSound();
        x.man(0);
        Due.is("without a text", x.strike(0), 9);
        x.mend(0, 6, 20);
        Due.is("without a text, far", x.strike(0), 0);
        Due.is("law", Due.lay(x, "3+b"), 1);
        Due.is("beat 2", x.strike(0), 5);
        Due.is("a fault", Due.lay(x, "7+"), -102);
        Due.is("beat 3", x.strike(0), 6);
        Due.is("beat 4", x.strike(0), 3);
        Due.is("another", Due.lay(x, "8"), 1);
        Due.is("beat 5", x.strike(0), 8);
        Due.is("the least int by -1", Due.lay(x, "(8192*8192*32/-1<0)+(8192*8192*32%-1=0)*2"), 1);
        Due.is("beat 6", x.strike(0), 3);
    }

    /** Any letters: the fault as an automaton of open signs tells it. */
    private static void anyTexts() {
        Random random = new Random(7);
        ThreshedSound x = new ThreshedSound();
        for (int i = 0; i < 60000; i++) {
            StringBuilder text = new StringBuilder();
            int length = random.nextInt(i % 10 == 0 ? 60 : 14);
            for (int k = 0; k < length; k++) {
                text.append(LETTERS.charAt(random.nextInt(LETTERS.length())));
                // most letters fit, so that texts grow long
                if (random.nextInt(12) != 0 && place(text.toString()) >= 0 && place(text.toString()) < text.length()) {
                    text.setLength(text.length() - 1);
                }
            }
            int place = place(text.toString());
            Due.is("law " + text, Due.lay(x, text.toString()), place < 0 ? 1 : -100 - place);
            x = i % 8 == 0 ? new ThreshedSound() : x;
        }
    }

    /** -1: it is a TEXT. */
    private static int place(String text) {
        StringBuilder open = new StringBuilder();
        StringBuilder compared = new StringBuilder("n");
        boolean wantsOne = true;
        boolean hasFirst = false;
        int digits = 0;
        for (int i = 0; i < text.length(); i++) {
            char c = text.charAt(i);
            int last = compared.length() - 1;
            if (wantsOne) {
                if (c == '(' || c == '!' || c == '-') {
                    if (open.length() == 6) {
                        return i;
                    }
                    open.append(c);
                    if (c == '(') {
                        compared.append('n');
                    }
                    continue;
                }
                boolean digit = c >= '0' && c <= '9';
                if (!digit && NAMES.indexOf(c) < 0) {
                    return i;
                }
                digits = digit ? 1 : 0;
                wantsOne = false;
                closeSigns(open);
                continue;
            }
            if (c >= '0' && c <= '9') {
                if (digits == 0 || digits == 4) {
                    return i;
                }
                digits++;
                continue;
            }
            digits = 0;
            if (c == ')') {
                if (open.length() == 0) {
                    return i;
                }
                open.setLength(open.length() - 1);
                compared.setLength(last);
                closeSigns(open);
            } else if ("<=>".indexOf(c) >= 0) {
                if (compared.charAt(last) == 'y') {
                    return i;
                }
                compared.setCharAt(last, 'y');
                wantsOne = true;
            } else if ("|&".indexOf(c) >= 0) {
                compared.setCharAt(last, 'n');
                wantsOne = true;
            } else if ("+-*/%".indexOf(c) >= 0) {
                wantsOne = true;
            } else if (c == '?' || c == ';') {
                if (open.length() > 0 || c == '?' && hasFirst) {
                    return i;
                }
                hasFirst = c == '?';
                compared.setCharAt(last, 'n');
                wantsOne = true;
            } else {
                return i;
            }
        }
        return wantsOne || open.length() > 0 ? text.length() : -1;
    }

    private static void closeSigns(StringBuilder open) {
        while (open.length() > 0 && open.charAt(open.length() - 1) != '(') {
            open.setLength(open.length() - 1);
        }
    }

    private static final int[] named = new int[6];
    private static int worth;

    /** Any trees: their worth as they are made, their text by the law. */
    private static void anyTrees() {
        Random random = new Random(11);
        for (int i = 0; i < 30000; i++) {
            ThreshedSound x = new ThreshedSound();
            int men = Due.between(random, 1, 4);
            for (int man = 0; man < men; man++) {
                x.man(random.nextInt(16));
                x.mend(man, 3, 6);
                x.mend(man, 4, random.nextInt(13));
            }
            int plank = random.nextInt(16);
            x.mend(plank, 0, random.nextInt(8));
            x.mend(plank, 1, random.nextInt(10));
            x.mend(0, 6, random.nextInt(21));
            int beat = random.nextInt(9);
            for (int k = 0; k < beat; k++) {
                x.strike(16);
            }
            named[0] = x.of(plank, 0);
            named[1] = x.of(plank, 1);
            named[2] = x.of(0, 6);
            named[3] = beat % men;
            named[4] = x.of(beat % men, 4);
            named[5] = beat % 4;
            StringBuilder text = new StringBuilder();
            int want = lines(random, text);
            if (text.length() <= 120) {
                Due.is("law " + text, Due.lay(x, text.toString()), 1);
                Due.is("loud by " + text, x.strike(plank), Math.max(0, Math.min(9, want)));
            }
        }
    }

    private static int lines(Random random, StringBuilder text) {
        int lines = Due.between(random, 1, 3);
        int answer = 0;
        boolean found = false;
        for (int i = 0; i < lines; i++) {
            text.append(i == 0 ? "" : ";");
            boolean counts = true;
            if (random.nextInt(3) != 0) {
                text.append(tree(random, 0, 3, 6));
                counts = worth != 0;
                text.append('?');
            }
            text.append(tree(random, 0, 3, 6));
            if (counts && !found) {
                answer = worth;
                found = true;
            }
        }
        return answer;
    }

    /** A text of at least this level (0 E to 5 O); worth is what it gives. */
    private static String tree(Random random, int level, int deep, int open) {
        if (level == 5) {
            return one(random, deep, open);
        }
        String[] signs = {"|", "&", "<=>", "+-", "*/%"};
        String text = tree(random, level + 1, deep, open);
        int left = worth;
        int more = deep > 0 && random.nextInt(3) == 0 ? Due.between(random, 1, level == 2 ? 1 : 2) : 0;
        for (int i = 0; i < more; i++) {
            char sign = signs[level].charAt(random.nextInt(signs[level].length()));
            text += sign + tree(random, level + 1, deep - 1, open);
            left = joined(sign, left, worth);
        }
        worth = left;
        return text;
    }

    private static String one(Random random, int deep, int open) {
        int which = open == 0 || deep == 0 ? random.nextInt(2) : random.nextInt(5);
        if (which == 0) {
            int most = new int[] {9, 99, 999, 9999}[random.nextInt(4)];
            worth = random.nextInt(most + 1);
            return String.valueOf(worth);
        }
        if (which == 1) {
            int name = random.nextInt(6);
            worth = named[name];
            return NAMES.substring(name, name + 1);
        }
        if (which == 2) {
            return "(" + tree(random, 0, deep - 1, open - 1) + ")";
        }
        String text = one(random, deep, open - 1);
        worth = which == 3 ? (worth == 0 ? 1 : 0) : -worth;
        return (which == 3 ? "!" : "-") + text;
    }

    private static int joined(char sign, int a, int b) {
        switch (sign) {
            case '|': return (a != 0 ? 1 : 0) | (b != 0 ? 1 : 0);
            case '&': return (a != 0 ? 1 : 0) & (b != 0 ? 1 : 0);
            case '<': return a < b ? 1 : 0;
            case '=': return a == b ? 1 : 0;
            case '>': return a > b ? 1 : 0;
            case '+': return a + b;
            case '-': return a - b;
            case '*': return a * b;
            case '/': return b == 0 ? 0 : a / b;
            default: return b == 0 ? 0 : a % b;
        }
    }
}
