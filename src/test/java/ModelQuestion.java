import java.util.ArrayList;
import java.util.List;
import java.util.TreeMap;
import java.util.TreeSet;
import java.util.regex.Matcher;
import java.util.regex.Pattern;

/** A question of the Model: cut into words by patterns, then read into functions of the variables. */
final class ModelQuestion {
    record Key(List<Integer> path, int number) {
    }

    private record Path(char variable, List<Integer> fields, int kind, int target) {
    }

    /** An operand: a path, or a number, or n if both are null. */
    private record Operand(Path path, Integer number) {
        boolean isNumber() {
            return path == null ? number != null : path.kind() == 0;
        }

        boolean isReference() {
            return path == null ? number == null : path.kind() == 1;
        }
    }

    private interface Condition {
        boolean holds(TreeMap<Character, Integer> variables);
    }

    private static final Pattern WHOLE = Pattern.compile("(?:([*#])|(\\+)(x(?:\\.[a-h])*))([A-E])(\\?.+)?");
    private static final Pattern WORD = Pattern.compile("[xyz](?:\\.[a-h])*|-?[0-9]+|.");

    final char mode;
    final int c;
    /** The factors of a condition that is one part, which an index could serve. */
    final List<Key> keys = new ArrayList<>();
    private final Model model;
    private final List<String> words = new ArrayList<>();
    private final TreeMap<Character, Integer> standing = new TreeMap<>();
    private final Path summed;
    private final Condition condition;
    private int at;

    ModelQuestion(Model model, String text) {
        this.model = model;
        Matcher whole = WHOLE.matcher(text);
        refuseUnless(whole.matches());
        mode = text.charAt(0);
        c = whole.group(4).charAt(0) - 'A' + 1;
        refuseUnless(model.isClass(c));
        standing.put('x', c);
        summed = mode == '+' ? pathOf(whole.group(3)) : null;
        refuseUnless(summed == null || summed.kind() == 0);
        if (whole.group(5) == null) {
            condition = variables -> true;
            return;
        }
        Matcher word = WORD.matcher(whole.group(5).substring(1));
        while (word.find()) {
            words.add(word.group());
        }
        List<List<Key>> parts = new ArrayList<>();
        condition = readCondition(0, parts);
        refuseUnless(at == words.size());
        if (parts.size() == 1) {
            keys.addAll(parts.get(0));
        }
    }

    boolean fits(int id) {
        TreeMap<Character, Integer> variables = new TreeMap<>();
        variables.put('x', id);
        return condition.holds(variables);
    }

    long amount(int id) {
        if (summed == null) {
            return 1;
        }
        Integer number = model.walk(id, summed.fields());
        return number == null ? 0 : number;
    }

    private static void refuseUnless(boolean good) {
        if (!good) {
            throw new Model.Refused();
        }
    }

    private String peek() {
        return at < words.size() ? words.get(at) : "";
    }

    private String next() {
        String word = peek();
        at++;
        return word;
    }

    private Condition readCondition(int deep, List<List<Key>> parts) {
        List<Condition> all = new ArrayList<>();
        do {
            List<Key> found = new ArrayList<>();
            all.add(readPart(deep, found));
            parts.add(found);
        } while (peek().equals("|") && at++ >= 0);
        return variables -> all.stream().anyMatch(one -> one.holds(variables));
    }

    private Condition readPart(int deep, List<Key> found) {
        List<Condition> all = new ArrayList<>();
        do {
            all.add(readFactor(deep, found));
        } while (peek().equals("&") && at++ >= 0);
        return variables -> all.stream().allMatch(one -> one.holds(variables));
    }

    private Condition readFactor(int deep, List<Key> found) {
        String first = peek();
        boolean nest = first.equals("!") || first.equals("(") || first.equals("E");
        refuseUnless(!nest || deep < 12);
        switch (first) {
            case "!": {
                at++;
                Condition inner = readFactor(deep + 1, new ArrayList<>());
                return variables -> !inner.holds(variables);
            }
            case "(": {
                at++;
                Condition inner = readCondition(deep + 1, new ArrayList<>());
                refuseUnless(next().equals(")"));
                return inner;
            }
            case "E":
                at++;
                return readSome(deep + 1);
            default:
                return readComparison(found);
        }
    }

    /** The variable and the path come as two words: a variable without a field, and the path. */
    private Condition readSome(int deep) {
        String name = next();
        refuseUnless(name.equals("y") || name.equals("z"));
        char variable = name.charAt(0);
        refuseUnless(!standing.containsKey(variable));
        Path path = pathOf(next());
        refuseUnless(path.kind() == 2 && next().equals(":"));
        standing.put(variable, path.target());
        Condition inner = readFactor(deep, new ArrayList<>());
        standing.remove(variable);
        List<Integer> toOwner = path.fields().subList(0, path.fields().size() - 1);
        int setField = path.fields().get(path.fields().size() - 1);
        return variables -> {
            Integer owner = model.walk(variables.get(path.variable()), toOwner);
            if (owner == null || owner == 0) {
                return false;
            }
            TreeSet<Integer> members = model.thing(owner).set(setField);
            return members.stream().anyMatch(member -> {
                TreeMap<Character, Integer> more = new TreeMap<>(variables);
                more.put(variable, member);
                return inner.holds(more);
            });
        };
    }

    private Condition readComparison(List<Key> found) {
        Operand left = readOperand();
        String sign = next();
        Operand right = readOperand();
        boolean numbers = left.isNumber() && right.isNumber();
        boolean references = left.isReference() && right.isReference();
        refuseUnless(sign.equals("=") && (numbers || references) || (sign.equals("<") || sign.equals(">")) && numbers);
        if (sign.equals("=") && left.path() != null && left.path().variable() == 'x' && right.number() != null) {
            found.add(new Key(left.path().fields(), right.number()));
        }
        return variables -> {
            Integer a = valueOf(left, variables);
            Integer b = valueOf(right, variables);
            if (a == null || b == null) {
                return false;
            }
            int order = a.compareTo(b);
            return sign.equals("=") ? order == 0 : sign.equals("<") ? order < 0 : order > 0;
        };
    }

    private Integer valueOf(Operand operand, TreeMap<Character, Integer> variables) {
        if (operand.path() == null) {
            return operand.number() == null ? 0 : operand.number();
        }
        return model.walk(variables.get(operand.path().variable()), operand.path().fields());
    }

    private Operand readOperand() {
        String word = next();
        if (word.equals("n")) {
            return new Operand(null, null);
        }
        if (word.matches("-?[0-9]{1,10}")) {
            long number = Long.parseLong(word);
            refuseUnless(number >= Integer.MIN_VALUE && number <= Integer.MAX_VALUE);
            return new Operand(null, (int) number);
        }
        return new Operand(pathOf(word), null);
    }

    private Path pathOf(String word) {
        refuseUnless(word.matches("[xyz](\\.[a-h])*") && standing.containsKey(word.charAt(0)));
        int target = standing.get(word.charAt(0));
        int kind = 1;
        List<Integer> fields = new ArrayList<>();
        for (int i = 2; i < word.length(); i += 2) {
            int f = word.charAt(i) - 'a';
            refuseUnless(kind == 1 && model.belongs(target, f));
            kind = model.fields.get(f).kind();
            target = model.fields.get(f).target();
            fields.add(f);
        }
        return new Path(word.charAt(0), fields, kind, target);
    }
}
