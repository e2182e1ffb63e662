import java.util.Random;

/** Texts for THE WALK: most of them right or nearly so. */
final class RandomText {
    private static final String[] NAMES = {"a", "b", "ab", "abcdef", "Ab", "do", "x"};
    private static final String[] SIGNS = {" ", "\n", ";", "[", "]", "1", "9", "a", "at", "7th", "abcdefg", "12345", "\u00e9"};
    private final Random random;
    private final StringBuilder text = new StringBuilder();

    private RandomText(Random random) {
        this.random = random;
    }

    static String make(Random random) {
        RandomText maker = new RandomText(random);
        int many = random.nextInt(8);
        for (int k = 0; k < many; k++) {
            maker.statement(0);
        }
        maker.spoil();
        String made = maker.text.toString();
        return made.length() > 600 ? made.substring(0, 600) : made;
    }

    private void spoil() {
        int spoils = random.nextInt(3) == 0 ? 1 + random.nextInt(2) : 0;
        for (int k = 0; k < spoils && text.length() > 0; k++) {
            int at = random.nextInt(text.length());
            switch (random.nextInt(4)) {
                case 0:
                    text.deleteCharAt(at);
                    break;
                case 1:
                    text.insert(at, SIGNS[random.nextInt(SIGNS.length)]);
                    break;
                case 2:
                    text.replace(at, at + 1, SIGNS[random.nextInt(SIGNS.length)]);
                    break;
                default:
                    text.setLength(at);
            }
        }
    }

    private void blank(boolean needed) {
        int many = needed ? 1 : 0;
        if (random.nextInt(10) == 0) {
            many += random.nextInt(3) - (random.nextInt(8) == 0 ? 1 : 0);
        }
        for (int k = 0; k < many; k++) {
            text.append(random.nextInt(5) == 0 ? '\n' : ' ');
        }
    }

    private void word(String word) {
        text.append(word);
    }

    private void number(int least, int most) {
        blank(true);
        int value = least + random.nextInt(most - least + 1);
        if (random.nextInt(60) == 0) {
            value = random.nextBoolean() ? most + 1 : Math.max(0, least - 1);
        }
        if (random.nextInt(20) == 0) {
            text.append(String.format("%04d", value));
        } else {
            text.append(value);
        }
    }

    private void name() {
        blank(true);
        text.append(NAMES[random.nextInt(NAMES.length)]);
    }

    private void statement(int depth) {
        blank(false);
        switch (random.nextInt(11)) {
            case 0:
                word("at");
                number(0, 1000);
                break;
            case 1:
            case 2:
                word("go");
                blank(true);
                word("to");
                number(0, 1000);
                blank(true);
                word("in");
                number(1, random.nextInt(10) == 0 ? 200 : 12);
                break;
            case 3:
                word("stay");
                number(1, random.nextInt(10) == 0 ? 200 : 5);
                break;
            case 4:
            case 5:
                word("rise");
                number(1, 40);
                blank(true);
                word("in");
                number(2, random.nextInt(5) == 0 ? 40 : 6);
                break;
            case 6:
                word("light");
                blank(true);
                word(random.nextInt(3) == 0 ? "off" : "on");
                break;
            case 7:
                word("do");
                name();
                break;
            case 8:
                if (depth == 0 || random.nextInt(20) == 0) {
                    word("figure");
                    name();
                    body(depth);
                    break;
                }
                word("do");
                name();
                break;
            default:
                word("repeat");
                number(0, random.nextInt(6) == 0 ? 20 : 3);
                body(depth);
        }
        blank(false);
        text.append(';');
    }

    private void body(int depth) {
        blank(false);
        text.append('[');
        int many = random.nextInt(4);
        for (int k = 0; k < many && text.length() < 590; k++) {
            statement(depth + 1);
        }
        blank(false);
        text.append(']');
    }
}
