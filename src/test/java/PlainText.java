import java.util.ArrayDeque;
import java.util.ArrayList;
import java.util.Deque;
import java.util.List;
import java.util.Map;
import java.util.Set;
import java.util.regex.Matcher;
import java.util.regex.Pattern;

/**
 * The office's texts, read another way than ArmsBook does: all tokens first, their order by a table
 * of places with a pile of open expressions, the values by two piles of operands and operators.
 */
final class PlainText {
    private static final Pattern TOKEN = Pattern.compile("[a-z]+|[0-9]+|[^a-z0-9]", Pattern.DOTALL);
    private static final Set<String> VERBS = Set.of("refuse", "differ", "fee");
    private static final Set<String> NAMES =
            Set.of("grade", "steps", "year", "born", "female", "marks", "rivals", "quarters");

    private enum Place { RULE, TEST, SUM, BEHIND }

    private record Token(String word, int at) {
        boolean isNumber() {
            return Character.isDigit(word.charAt(0));
        }

        boolean isWord() {
            return word.matches("[a-z]+");
        }
    }

    private PlainText() {
    }

    private static List<Token> tokens(String text) {
        List<Token> found = new ArrayList<>();
        Matcher matcher = TOKEN.matcher(text);
        while (matcher.find()) {
            if (!matcher.group().equals(" ") && !matcher.group().equals("\n")) {
                found.add(new Token(matcher.group(), matcher.start()));
            }
        }
        return found;
    }

    /** The fault (0 without one) and its place. */
    static int[] faultOf(String text) {
        Place place = Place.RULE;
        Deque<Boolean> compared = new ArrayDeque<>();
        int rules = 0;
        boolean first = false;
        for (Token token : tokens(text)) {
            String word = token.word();
            int fault = 0;
            if (place == Place.RULE) {
                if (!VERBS.contains(word)) {
                    fault = 1;
                } else if (++rules > 12) {
                    fault = 2;
                }
                place = Place.TEST;
                compared.push(false);
                first = true;
            } else if (place == Place.BEHIND) {
                if (word.equals("+") || word.equals("-")) {
                    place = Place.SUM;
                } else if ((word.equals("<") || word.equals("=")) && !compared.peek()) {
                    compared.pop();
                    compared.push(true);
                    place = Place.SUM;
                } else if (word.equals("and") || word.equals("or")) {
                    compared.pop();
                    compared.push(false);
                    place = Place.TEST;
                } else if (word.equals(")") && compared.size() > 1) {
                    compared.pop();
                } else if (word.equals(";") && compared.size() == 1) {
                    compared.pop();
                    place = Place.RULE;
                } else {
                    fault = 1;
                }
            } else {
                boolean tooDeep = first && compared.size() > 6;
                first = false;
                if (word.equals("not") && place == Place.TEST) {
                    fault = tooDeep ? 2 : 0;
                    place = Place.SUM;
                } else if (token.isNumber()) {
                    fault = tooDeep || word.length() > 4 ? 2 : 0;
                    place = Place.BEHIND;
                } else if (word.equals("(")) {
                    fault = tooDeep ? 2 : 0;
                    place = Place.TEST;
                    compared.push(false);
                    first = true;
                } else if (token.isWord()) {
                    fault = !NAMES.contains(word) ? 3 : tooDeep ? 2 : 0;
                    place = Place.BEHIND;
                } else {
                    fault = 1;
                }
            }
            if (fault != 0) {
                return new int[] {fault, token.at()};
            }
        }
        return place == Place.RULE ? new int[] {0, -1} : new int[] {1, text.length()};
    }

    /** Of a text without faults: whether it refuses, whether it wants a difference, and the fees. */
    static int[] judge(String text, Map<String, Integer> names) {
        int[] found = new int[3];
        String verb = null;
        List<Token> expression = new ArrayList<>();
        for (Token token : tokens(text)) {
            if (verb == null) {
                verb = token.word();
            } else if (token.word().equals(";")) {
                int value = value(expression, names);
                found[0] |= verb.equals("refuse") && value != 0 ? 1 : 0;
                found[1] |= verb.equals("differ") && value != 0 ? 1 : 0;
                found[2] += verb.equals("fee") ? value : 0;
                verb = null;
                expression.clear();
            } else {
                expression.add(token);
            }
        }
        return found;
    }

    private static int strength(String operator) {
        switch (operator) {
            case "+": case "-": return 4;
            case "<": case "=": return 3;
            case "not": return 2;
            case "and": case "or": return 1;
            default: return 0;
        }
    }

    private static int value(List<Token> expression, Map<String, Integer> names) {
        Deque<Integer> values = new ArrayDeque<>();
        Deque<String> operators = new ArrayDeque<>();
        for (Token token : expression) {
            String word = token.word();
            if (token.isNumber()) {
                values.push(Integer.parseInt(word));
            } else if (names.containsKey(word)) {
                values.push(names.get(word));
            } else if (word.equals("(") || word.equals("not")) {
                operators.push(word);
            } else {
                while (!operators.isEmpty() && !operators.peek().equals("(")
                        && strength(operators.peek()) >= strength(word)) {
                    work(operators.pop(), values);
                }
                if (word.equals(")")) {
                    operators.pop();
                } else {
                    operators.push(word);
                }
            }
        }
        while (!operators.isEmpty()) {
            work(operators.pop(), values);
        }
        return values.pop();
    }

    private static void work(String operator, Deque<Integer> values) {
        int right = values.pop();
        if (operator.equals("not")) {
            values.push(right == 0 ? 1 : 0);
            return;
        }
        int left = values.pop();
        switch (operator) {
            case "+": values.push(left + right); break;
            case "-": values.push(left - right); break;
            case "<": values.push(left < right ? 1 : 0); break;
            case "=": values.push(left == right ? 1 : 0); break;
            case "and": values.push(left != 0 && right != 0 ? 1 : 0); break;
            default: values.push(left != 0 || right != 0 ? 1 : 0); break;
        }
    }
}
