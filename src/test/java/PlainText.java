import java.util.ArrayList;
import java.util.List;

/**
 * THE TEXT, for PlainPoints. The FAULT is found by asking of each beginning whether a TEXT goes on
 * with it, by a machine with a stack; games are made apart from that, of texts without a FAULT.
 */
final class PlainText {
    private final PlainPoints points;
    private final String text;
    private int at;

    PlainText(PlainPoints points, String text) {
        this.points = points;
        this.text = text;
    }

    /** The place of the FAULT, -1 if the text has none. */
    static int fault(String text) {
        // open things, '-' till its U ends, 'L' and 'R' for sides of '<'
        StringBuilder open = new StringBuilder();
        // u: a U must come; s: a side must come; d/D: behind 1/2 digits of a number; e: behind a U;
        // w: a digit must come; c: behind ':'; m: behind ':-'; 1/2: behind digits of a SHUT; x: behind a SHUT
        char state = 'u';
        for (int k = 0; k < text.length(); k++) {
            char sign = text.charAt(k);
            boolean digit = sign >= '0' && sign <= '9';
            char next = '!';
            switch (state) {
                case 's':
                    if (sign == ':') {
                        next = 'c';
                        break;
                    }
                    next = unit(sign, digit, open);
                    break;
                case 'u':
                    next = unit(sign, digit, open);
                    break;
                case 'w':
                    next = digit ? 'e' : '!';
                    break;
                case 'c':
                    next = sign == '-' ? 'm' : digit ? '1' : '!';
                    break;
                case 'm':
                    next = digit ? '1' : '!';
                    break;
                case '1':
                case '2':
                case 'x':
                    next = digit && state != 'x' ? (state == '1' ? '2' : 'x') : behind(sign, open, false);
                    break;
                default:
                    if (digit && state != 'e') {
                        next = state == 'd' ? 'D' : 'e';
                    } else {
                        next = behind(sign, open, true);
                    }
            }
            if (next == '!') {
                return k;
            }
            state = next;
        }
        dropMinus(open);
        boolean ended = open.length() == 0 && (state == 'e' || state == 'd' || state == 'D');
        return ended ? -1 : text.length();
    }

    private static char unit(char sign, boolean digit, StringBuilder open) {
        if (digit) {
            return 'd';
        }
        if (sign == 'w') {
            return 'w';
        }
        if ((sign == '-' || sign == '<') && open.length() < 8) {
            open.append(sign == '-' ? '-' : 'L');
            return sign == '-' ? 'u' : 's';
        }
        return '!';
    }

    private static void dropMinus(StringBuilder open) {
        while (open.length() > 0 && open.charAt(open.length() - 1) == '-') {
            open.setLength(open.length() - 1);
        }
    }

    private static char behind(char sign, StringBuilder open, boolean ofSum) {
        if (ofSum) {
            dropMinus(open);
        }
        if (ofSum && sign == '+') {
            return 'u';
        }
        if (open.length() == 0) {
            return '!';
        }
        int last = open.length() - 1;
        if (ofSum && sign == ',') {
            return 'u';
        }
        if (sign == '|' && open.charAt(last) == 'L') {
            open.setCharAt(last, 'R');
            return 's';
        }
        if (sign == '>' && open.charAt(last) == 'R') {
            open.setLength(last);
            return 'e';
        }
        return '!';
    }

    PlainPoints.G sum() {
        PlainPoints.G whole = points.fit(unit());
        while (at < text.length() && text.charAt(at) == '+') {
            at++;
            whole = points.fit(points.sum(whole, unit()));
        }
        return whole;
    }

    private PlainPoints.G unit() {
        char sign = text.charAt(at);
        if (sign == '-') {
            at++;
            return points.fit(points.negative(unit()));
        }
        if (sign == 'w') {
            at += 2;
            return points.waitsGame(text.charAt(at - 1) - '0');
        }
        if (sign != '<') {
            return points.plain(digits());
        }
        at++;
        Integer[] numbers = new Integer[2];
        List<PlainPoints.G> left = side(numbers, 0);
        List<PlainPoints.G> right = side(numbers, 1);
        return points.fit(points.make(left, right, left == null ? numbers[0] : 0, right == null ? numbers[1] : 0));
    }

    private List<PlainPoints.G> side(Integer[] numbers, int k) {
        List<PlainPoints.G> options = null;
        if (text.charAt(at) == ':') {
            at++;
            int sign = text.charAt(at) == '-' ? -1 : 1;
            at += sign < 0 ? 1 : 0;
            numbers[k] = sign * digits();
        } else {
            options = new ArrayList<>();
            options.add(sum());
            while (text.charAt(at) == ',') {
                at++;
                options.add(sum());
            }
        }
        at++;
        return options;
    }

    private int digits() {
        int from = at;
        while (at < text.length() && Character.isDigit(text.charAt(at))) {
            at++;
        }
        return Integer.parseInt(text.substring(from, at));
    }
}
