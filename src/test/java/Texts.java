import java.util.Random;

/** Texts by chance: most are good, some are spoilt by a byte or cut off. */
final class Texts {
    private static final String[] NAMES = {"soot", "wide", "bend", "more", "heat", "wet"};
    private static final String[] TOKENS = {"adds", "heavy", "burns", "and", "or", "not", "soot", "wide", "bend", "more",
        "heat", "wet", "(", ")", ";", "+", "-", "*", "<", "=", "0", "7", "42", "999", "9999", "10000", "x", "A", "\u00e9", "\t"};

    private Texts() {
    }

    static String some(Random chance) {
        StringBuilder out = new StringBuilder();
        if (chance.nextInt(6) == 0) {
            nested(chance, out);
        } else {
            for (String key : new String[] {"adds", "heavy", "burns"}) {
                out.append(key).append(' ');
                either(chance, out, 2);
                out.append(';');
            }
        }
        blanks(chance, out);
        String text = out.toString();
        int how = chance.nextInt(8);
        if (how == 0) {
            text = text.substring(0, chance.nextInt(text.length()));
        } else if (how <= 2) {
            int at = chance.nextInt(text.length());
            String token = TOKENS[chance.nextInt(TOKENS.length)];
            text = text.substring(0, at) + token + text.substring(Math.min(text.length(), at + chance.nextInt(4)));
        }
        return text.substring(0, Math.min(160, text.length()));
    }

    /** Many signs that open, about as many as may. */
    private static void nested(Random chance, StringBuilder out) {
        out.append("adds ");
        int round = 0;
        int many = 3 + chance.nextInt(4);
        for (int i = 0; i < many; i++) {
            String sign = new String[] {"(", "-", "not ", "(not ", "( - ", "(1+"}[chance.nextInt(6)];
            out.append(sign);
            round += sign.charAt(0) == '(' ? 1 : 0;
        }
        out.append("soot");
        for (int i = 0; i < round; i++) {
            out.append(chance.nextInt(3) == 0 ? "*2)" : ")");
            if (chance.nextInt(6) == 0) {
                out.append(new String[] {" + - 1", " and not 0", " * (2)", " < 3"}[chance.nextInt(4)]);
            }
        }
        out.append(";heavy 5;burns 1;");
    }

    private static void blanks(Random chance, StringBuilder out) {
        for (int i = chance.nextInt(3); i > 0; i--) {
            out.append(chance.nextBoolean() ? ' ' : '\n');
        }
    }

    private static void either(Random chance, StringBuilder out, int deep) {
        list(chance, out, deep, 0);
    }

    private static final String[][] JOINERS = {{" or "}, {" and "}, {"<", "="}, {"+", "-"}, {"*"}};

    private static void list(Random chance, StringBuilder out, int deep, int level) {
        if (level == 5) {
            one(chance, out, deep);
            return;
        }
        if (level == 2 && chance.nextInt(8) == 0 && deep > 0) {
            out.append("not ");
            list(chance, out, deep - 1, level);
            return;
        }
        list(chance, out, deep, level + 1);
        int more = chance.nextInt(level == 3 ? 2 : 7) == 0 ? 1 : 0;
        for (int i = 0; i < more; i++) {
            out.append(JOINERS[level][chance.nextInt(JOINERS[level].length)]);
            blanks(chance, out);
            list(chance, out, deep, level + 1);
        }
    }

    private static void one(Random chance, StringBuilder out, int deep) {
        int how = chance.nextInt(10);
        if (how < 5) {
            out.append(NAMES[chance.nextInt(6)]);
        } else if (how < 8 || deep == 0) {
            out.append(chance.nextInt(chance.nextInt(6) == 0 ? 10000 : 60));
        } else if (how == 8) {
            out.append('-');
            one(chance, out, deep - 1);
        } else {
            out.append('(');
            either(chance, out, deep - 1);
            out.append(')');
        }
        blanks(chance, out);
    }
}
