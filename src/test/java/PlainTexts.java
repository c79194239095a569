import java.util.ArrayList;
import java.util.List;

/** Texts once more: faults by walking the tokens with a pile of what is open, values by splitting at what binds least. */
final class PlainTexts {
    record Tok(String s, int at, boolean wrong) {}

    static final List<String> NAMES = List.of("one", "other", "pace", "near", "many", "hand");
    static final List<String> KEYS = List.of("odds", "worth", "minds", "or", "and", "not");

    private PlainTexts() {}

    static List<Tok> tokens(String t) {
        List<Tok> all = new ArrayList<>();
        for (int i = 0; i < t.length();) {
            char c = t.charAt(i);
            int j = i + 1;
            if (c == ' ' || c == '\n') { i = j; continue; }
            boolean wrong;
            if (c >= 'a' && c <= 'z') {
                while (j < t.length() && t.charAt(j) >= 'a' && t.charAt(j) <= 'z') j++;
                String w = t.substring(i, j);
                wrong = !NAMES.contains(w) && !KEYS.contains(w);
            } else if (c >= '0' && c <= '9') {
                while (j < t.length() && t.charAt(j) >= '0' && t.charAt(j) <= '9') j++;
                wrong = j - i > 4;
            } else {
                wrong = "();+-*<=".indexOf(c) < 0;
            }
            all.add(new Tok(t.substring(i, j), i, wrong));
            i = j;
        }
        return all;
    }

    private static boolean isOperand(String s) {
        return NAMES.contains(s) || Character.isDigit(s.charAt(0));
    }

    /**
     * The place of the fault, or -1. The pile holds what is open: "(" , "not", "-", and of each bracket
     * (or of the part itself) whether its present NOT has been compared, as "<".
     */
    static int fault(String t) {
        List<Tok> toks = tokens(t);
        int i = 0;
        for (String key : List.of("odds", "worth", "minds")) {
            if (i >= toks.size()) return t.length();
            if (toks.get(i).wrong || !toks.get(i).s.equals(key)) return toks.get(i).at;
            i++;
            List<String> pile = new ArrayList<>();
            boolean wantsOne = true, notFits = true, ended = false;
            while (!ended) {
                if (i >= toks.size()) return t.length();
                Tok k = toks.get(i);
                if (k.wrong) return k.at;
                long open = pile.stream().filter(p -> !p.equals("<")).count();
                if (wantsOne) {
                    if (isOperand(k.s)) {
                        closeMinuses(pile);
                        wantsOne = false;
                    } else if (k.s.equals("(") || k.s.equals("-") || k.s.equals("not") && notFits) {
                        if (open >= 5) return k.at;
                        pile.add(k.s);
                        notFits = !k.s.equals("-");
                        i++;
                        continue;
                    } else {
                        return k.at;
                    }
                    notFits = false;
                } else {
                    switch (k.s) {
                        case "+": case "-": case "*":
                            wantsOne = true;
                            notFits = false;
                            break;
                        case "<": case "=":
                            if (!pile.isEmpty() && pile.get(pile.size() - 1).equals("<")) return k.at;
                            pile.add("<");
                            wantsOne = true;
                            notFits = false;
                            break;
                        case "and": case "or":
                            closeNots(pile);
                            wantsOne = true;
                            notFits = true;
                            break;
                        case ")":
                            closeNots(pile);
                            if (pile.isEmpty()) return k.at;
                            pile.remove(pile.size() - 1);
                            closeMinuses(pile);
                            break;
                        case ";":
                            closeNots(pile);
                            if (!pile.isEmpty()) return k.at;
                            ended = true;
                            break;
                        default:
                            return k.at;
                    }
                }
                i++;
            }
        }
        return i < toks.size() ? toks.get(i).at : -1;
    }

    private static void closeMinuses(List<String> pile) {
        while (!pile.isEmpty() && pile.get(pile.size() - 1).equals("-")) pile.remove(pile.size() - 1);
    }

    private static void closeNots(List<String> pile) {
        while (!pile.isEmpty() && !pile.get(pile.size() - 1).equals("(")) pile.remove(pile.size() - 1);
    }

    static int value(String t, int part, int[] names) {
        List<String> row = new ArrayList<>();
        int at = -1;
        for (Tok k : tokens(t)) {
            if (KEYS.indexOf(k.s) >= 0 && KEYS.indexOf(k.s) < 3) at++;
            else if (at == part && !k.s.equals(";")) row.add(k.s);
        }
        return value(row, names);
    }

    /** The last of some signs that stands outside all brackets with an operand ahead of it; -1 if none does. */
    private static int lastOf(List<String> row, String... signs) {
        int depth = 0, found = -1;
        for (int i = 0; i < row.size(); i++) {
            String s = row.get(i);
            if (s.equals("(")) depth++;
            if (s.equals(")")) depth--;
            if (depth == 0 && i > 0 && List.of(signs).contains(s)
                    && (isOperand(row.get(i - 1)) || row.get(i - 1).equals(")"))) found = i;
        }
        return found;
    }

    private static int value(List<String> row, int[] names) {
        int i = lastOf(row, "or");
        if (i >= 0) return value(row.subList(0, i), names) != 0 | value(row.subList(i + 1, row.size()), names) != 0 ? 1 : 0;
        i = lastOf(row, "and");
        if (i >= 0) return value(row.subList(0, i), names) != 0 & value(row.subList(i + 1, row.size()), names) != 0 ? 1 : 0;
        if (row.get(0).equals("not")) return value(row.subList(1, row.size()), names) == 0 ? 1 : 0;
        String[][] byBinding = {{"<", "="}, {"+", "-"}, {"*"}};
        for (String[] signs : byBinding) {
            i = lastOf(row, signs);
            if (i < 0) continue;
            int l = value(row.subList(0, i), names), r = value(row.subList(i + 1, row.size()), names);
            switch (row.get(i)) {
                case "<": return l < r ? 1 : 0;
                case "=": return l == r ? 1 : 0;
                case "+": return l + r;
                case "-": return l - r;
                default: return l * r;
            }
        }
        if (row.get(0).equals("-")) return -value(row.subList(1, row.size()), names);
        if (row.get(0).equals("(")) return value(row.subList(1, row.size() - 1), names);
        int name = NAMES.indexOf(row.get(0));
        return name >= 0 ? names[name] : Integer.parseInt(row.get(0));
    }
}
