import java.util.ArrayList;
import java.util.HashMap;
import java.util.List;
import java.util.Map;

/**
 * A second reading of THE WALK's TEXT: first cut into tokens, then read by descent into a tree, then
 * told count by count. It is slow where a text repeats much: texts that would take more than a
 * million steps are not for it.
 */
final class ModelText {
    static final int TOO_LONG = 99;
    private static final int MOST_STEPS = 1000000;

    private enum Kind { WORD, NUMBER, SIGN, END }

    private record Token(Kind kind, String text, int place, boolean glued) { }

    private record Order(String word, int a, int b, List<Order> body) { }

    private static final class Fault extends RuntimeException {
        private static final long serialVersionUID = 1L;
        final int kind;
        final int place;

        Fault(int kind, int place) {
            this.kind = kind;
            this.place = place;
        }
    }

    int fault;
    int place = -1;
    final List<int[]> counts = new ArrayList<>();
    private final List<Token> tokens = new ArrayList<>();
    private final Map<String, List<Order>> figures = new HashMap<>();
    private final int length;
    private int next;
    private int steps;

    ModelText(String text) {
        length = text.length();
        cut(text);
        try {
            List<Order> orders = orders(0);
            counts.add(new int[] {0, 0, 1});
            perform(orders);
            if (steps > MOST_STEPS) {
                throw new Fault(TOO_LONG, 0);
            }
            if (counts.size() > 241) {
                throw new Fault(5, length);
            }
        } catch (Fault found) {
            fault = found.kind;
            place = found.place;
        }
    }

    private static boolean isLetter(char c) {
        return "abcdefghijklmnopqrstuvwxyzABCDEFGHIJKLMNOPQRSTUVWXYZ".indexOf(c) >= 0;
    }

    private static boolean isDigit(char c) {
        return "0123456789".indexOf(c) >= 0;
    }

    private void cut(String text) {
        int at = 0;
        boolean glued = false;
        while (at < text.length()) {
            int from = at;
            char c = text.charAt(at++);
            if (c == ' ' || c == '\n') {
                glued = false;
                continue;
            }
            Kind kind = isLetter(c) ? Kind.WORD : isDigit(c) ? Kind.NUMBER : Kind.SIGN;
            while (kind == Kind.WORD && at < text.length() && isLetter(text.charAt(at))) {
                at++;
            }
            while (kind == Kind.NUMBER && at < text.length() && isDigit(text.charAt(at))) {
                at++;
            }
            tokens.add(new Token(kind, text.substring(from, at), from, glued));
            glued = kind != Kind.SIGN;
        }
        tokens.add(new Token(Kind.END, "", length, false));
    }

    private Token token() {
        return tokens.get(next);
    }

    private Token take(Kind kind) {
        Token t = token();
        if (t.kind != kind || t.glued && kind != Kind.SIGN) {
            throw new Fault(1, t.place);
        }
        next++;
        return t;
    }

    private void sign(String sign) {
        Token t = take(Kind.SIGN);
        if (!t.text.equals(sign)) {
            throw new Fault(1, t.place);
        }
    }

    private boolean word(String... words) {
        Token t = take(Kind.WORD);
        for (String word : words) {
            if (t.text.equals(word)) {
                return t.text.equals(words[0]);
            }
        }
        throw new Fault(1, t.place);
    }

    private int number(int least, int most) {
        Token t = take(Kind.NUMBER);
        if (t.text.length() > 4) {
            throw new Fault(1, t.place + 4);
        }
        int value = Integer.parseInt(t.text);
        if (value < least || value > most) {
            throw new Fault(2, t.place);
        }
        return value;
    }

    private Token name() {
        Token t = take(Kind.WORD);
        if (t.text.length() > 6) {
            throw new Fault(1, t.place + 6);
        }
        return t;
    }

    private List<Order> orders(int depth) {
        List<Order> orders = new ArrayList<>();
        while (token().kind == Kind.WORD) {
            Order order = order(depth);
            sign(";");
            if (order != null) {
                orders.add(order);
            }
        }
        boolean closes = token().text.equals("]");
        if (depth == 0 ? token().kind != Kind.END : !closes) {
            throw new Fault(1, token().place);
        }
        return orders;
    }

    private List<Order> body(int depth) {
        int place = token().place;
        sign("[");
        if (depth == 6) {
            throw new Fault(4, place);
        }
        List<Order> body = orders(depth + 1);
        sign("]");
        return body;
    }

    private Order order(int depth) {
        Token t = token();
        next++;
        switch (t.text) {
            case "at":
                return new Order("at", number(0, 1000), 0, null);
            case "stay":
                return new Order("stay", 0, number(1, 200), null);
            case "go": {
                word("to");
                int to = number(0, 1000);
                word("in");
                return new Order("go", to, number(1, 200), null);
            }
            case "rise": {
                int top = number(1, 40);
                word("in");
                return new Order("rise", top, number(2, 40), null);
            }
            case "light":
                return new Order("light", word("on", "off") ? 1 : 0, 0, null);
            case "repeat": {
                int times = number(0, 20);
                return new Order("repeat", times, 0, body(depth));
            }
            case "do": {
                Token name = name();
                if (!figures.containsKey(name.text)) {
                    throw new Fault(3, name.place);
                }
                return new Order("do", 1, 0, figures.get(name.text));
            }
            case "figure":
                if (depth == 0) {
                    figure(t);
                    return null;
                }
                throw new Fault(1, t.place);
            default:
                throw new Fault(1, t.place);
        }
    }

    private void figure(Token word) {
        if (figures.size() == 12) {
            throw new Fault(4, word.place);
        }
        Token name = name();
        if (figures.containsKey(name.text)) {
            throw new Fault(3, name.place);
        }
        figures.put(name.text, body(0));
    }

    private void perform(List<Order> orders) {
        for (Order order : orders) {
            if (counts.size() > 241 || steps++ > MOST_STEPS) {
                return;
            }
            int[] now = counts.get(counts.size() - 1);
            int from = now[0];
            if (order.word.equals("at")) {
                now[0] = order.a;
            } else if (order.word.equals("light")) {
                now[2] = order.a;
            } else if (order.body != null) {
                for (int k = 0; k < order.a && steps <= MOST_STEPS; k++) {
                    perform(order.body);
                    steps++;
                }
            }
            for (int k = 1; k <= order.b; k++) {
                long go = order.word.equals("go") ? part((long) (order.a - from) * k, order.b) : 0;
                long up = order.word.equals("rise") ? part(4L * order.a * k * (order.b - k), order.b * order.b) : 0;
                counts.add(new int[] {from + (int) go, (int) up, now[2]});
            }
        }
    }

    private static long part(long top, long under) {
        return Fraction.whole(top).over(Fraction.whole(under)).floor();
    }
}
