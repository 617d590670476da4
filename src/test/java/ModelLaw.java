import java.util.ArrayList;
import java.util.List;

/** THE LAW as a tree of little functions, read with an exception where no TEXT goes on. */
final class ModelLaw {
    /** What is worked out from t, c, r, m, a, b. */
    interface Worth {
        int of(int[] named);
    }

    /** The place of a FAULT. */
    static final class Fault extends Exception {
        private static final long serialVersionUID = 1;
        final int place;

        Fault(int place) {
            super(null, null, false, false);
            this.place = place;
        }
    }

    private final String text;
    private int at = 0;
    private int open = 0;
    private final List<Worth> firsts = new ArrayList<>();
    private final List<Worth> answers = new ArrayList<>();

    ModelLaw(String text) throws Fault {
        this.text = text;
        do {
            Worth worth = either();
            boolean isFirst = has("?");
            at += isFirst ? 1 : 0;
            firsts.add(isFirst ? worth : named -> 1);
            answers.add(isFirst ? either() : worth);
        } while (passedSemicolon());
    }

    int loud(int[] named) {
        for (int line = 0; line < firsts.size(); line++) {
            if (firsts.get(line).of(named) != 0) {
                return answers.get(line).of(named);
            }
        }
        return 0;
    }

    private boolean passedSemicolon() throws Fault {
        if (at == text.length()) {
            return false;
        }
        if (text.charAt(at) != ';') {
            throw new Fault(at);
        }
        at++;
        return true;
    }

    private boolean has(String signs) {
        return at < text.length() && signs.indexOf(text.charAt(at)) >= 0;
    }

    private Worth either() throws Fault {
        Worth left = both();
        while (has("|")) {
            at++;
            Worth one = left;
            Worth other = both();
            left = named -> truth(one.of(named) != 0 | other.of(named) != 0);
        }
        return left;
    }

    private Worth both() throws Fault {
        Worth left = compared();
        while (has("&")) {
            at++;
            Worth one = left;
            Worth other = compared();
            left = named -> truth(one.of(named) != 0 & other.of(named) != 0);
        }
        return left;
    }

    private Worth compared() throws Fault {
        Worth one = sum();
        if (!has("<=>")) {
            return one;
        }
        char sign = text.charAt(at++);
        Worth other = sum();
        return named -> {
            int order = Integer.compare(one.of(named), other.of(named));
            return truth(sign == '<' ? order < 0 : sign == '>' ? order > 0 : order == 0);
        };
    }

    private Worth sum() throws Fault {
        Worth left = product();
        while (has("+-")) {
            int sign = text.charAt(at++) == '+' ? 1 : -1;
            Worth one = left;
            Worth other = product();
            left = named -> one.of(named) + sign * other.of(named);
        }
        return left;
    }

    private Worth product() throws Fault {
        Worth left = single();
        while (has("*/%")) {
            char sign = text.charAt(at++);
            Worth one = left;
            Worth other = single();
            left = named -> multiplied(sign, one.of(named), other.of(named));
        }
        return left;
    }

    /** By long, so that only the cast wraps. */
    private static int multiplied(char sign, long one, long other) {
        if (sign == '*') {
            return (int) (one * other);
        }
        return other == 0 ? 0 : (int) (sign == '/' ? one / other : one % other);
    }

    private Worth single() throws Fault {
        if (has("0123456789")) {
            int from = at;
            while (has("0123456789") && at < from + 4) {
                at++;
            }
            int number = Integer.parseInt(text.substring(from, at));
            return named -> number;
        }
        if (has("tcrmab")) {
            int name = "tcrmab".indexOf(text.charAt(at++));
            return named -> named[name];
        }
        if (!has("(!-") || open == 6) {
            throw new Fault(at);
        }
        char sign = text.charAt(at++);
        open++;
        Worth inner = sign == '(' ? either() : single();
        if (sign == '(') {
            if (!has(")")) {
                throw new Fault(at);
            }
            at++;
        }
        open--;
        return sign == '(' ? inner : sign == '!' ? named -> truth(inner.of(named) == 0) : named -> -inner.of(named);
    }

    private static int truth(boolean holds) {
        return holds ? 1 : 0;
    }
}
