import java.util.ArrayList;
import java.util.HashMap;
import java.util.LinkedHashSet;
import java.util.List;
import java.util.Map;
import java.util.Set;
import java.util.regex.Matcher;
import java.util.regex.Pattern;

/** The document's own grammar, word for word, and Earley's way to tell the first TOKEN with which no text goes on. */
final class Grammar {
    static final String OF_THE_DOCUMENT =
        "text: {TELL}.   TELL: 'roof' INT INT INT ';' | ('weigh' | 'lap' | 'nail' | 'clip' | 'years' | 'moss') INT ';' | ('nailed' | 'clipped' | 'warn') 'if' COND ';' | ('suck' | 'press' | 'holds' | 'far') '=' E ';' | 'door' NAME INT INT ['open'] ';'.   COND: ALL {'or' ALL}.   ALL: LIT {'and' LIT}.   LIT: 'not' LIT | E ('==' | '!=' | '<' | '<=') E.   E: PART {('+' | '-') PART}.   PART: UNIT {('*' | '/') UNIT}.   UNIT: INT | VAR | '(' E ')'.   VAR: 'row' | 'col' | 'third' | 'edge' | 'bare' | 'holes' | 'inlet' | 'outlet' | 'gust' | 'way' | 'age' | 'grown' | 'nails'.";

    private record Item(String head, int choice, int dot, int from) { }

    private final Map<String, List<List<String>>> rules = new HashMap<>();
    private final List<String> source = new ArrayList<>();
    private int at;
    private int made;

    Grammar() {
        Matcher m = Pattern.compile("'[^']+'|[A-Za-z]+|[:{}\\[\\]()|.]").matcher(OF_THE_DOCUMENT);
        while (m.find()) {
            source.add(m.group());
        }
        while (at < source.size()) {
            String head = source.get(at);
            at += 2;
            rules.put(head, choices());
            at++;
        }
    }

    private List<List<String>> choices() {
        List<List<String>> all = new ArrayList<>();
        all.add(sequence());
        while (source.get(at).equals("|")) {
            at++;
            all.add(sequence());
        }
        return all;
    }

    private List<String> sequence() {
        List<String> parts = new ArrayList<>();
        while (!"|.)]}".contains(source.get(at))) {
            String part = source.get(at++);
            if ("{[(".contains(part)) {
                String name = "made" + made++;
                List<List<String>> inside = choices();
                at++;
                if (part.equals("{")) {
                    for (List<String> one : inside) {
                        one.add(name);
                    }
                }
                if (!part.equals("(")) {
                    inside.add(new ArrayList<>());
                }
                rules.put(name, inside);
                parts.add(name);
            } else {
                parts.add(part);
            }
        }
        return parts;
    }

    /** Words in quotes: those of letters. */
    Set<String> words() {
        Set<String> words = new LinkedHashSet<>();
        for (String part : source) {
            if (part.matches("'[a-z]+'")) {
                words.add(part.substring(1, part.length() - 1));
            }
        }
        return words;
    }

    /** The number of the first TOKEN with which no text goes on (their count: the end); -1: it is a text. */
    int firstMisfit(List<String> tokens) {
        List<Set<Item>> sets = new ArrayList<>();
        Set<Item> begin = new LinkedHashSet<>();
        for (int c = 0; c < rules.get("text").size(); c++) {
            begin.add(new Item("text", c, 0, 0));
        }
        sets.add(begin);
        for (int i = 0; i <= tokens.size(); i++) {
            Set<Item> next = new LinkedHashSet<>();
            List<Item> work = new ArrayList<>(sets.get(i));
            boolean whole = false;
            for (int w = 0; w < work.size(); w++) {
                Item item = work.get(w);
                List<String> body = rules.get(item.head()).get(item.choice());
                List<Item> found = new ArrayList<>();
                if (item.dot() == body.size()) {
                    whole |= item.head().equals("text");
                    for (Item waiting : new ArrayList<>(sets.get(item.from()))) {
                        List<String> its = rules.get(waiting.head()).get(waiting.choice());
                        if (waiting.dot() < its.size() && its.get(waiting.dot()).equals(item.head())) {
                            found.add(new Item(waiting.head(), waiting.choice(), waiting.dot() + 1, waiting.from()));
                        }
                    }
                } else {
                    String wanted = body.get(item.dot());
                    if (rules.containsKey(wanted)) {
                        for (int c = 0; c < rules.get(wanted).size(); c++) {
                            found.add(new Item(wanted, c, 0, i));
                            if (canBeEmpty(wanted)) {
                                found.add(new Item(item.head(), item.choice(), item.dot() + 1, item.from()));
                            }
                        }
                    } else if (i < tokens.size() && wanted.equals(tokens.get(i))) {
                        next.add(new Item(item.head(), item.choice(), item.dot() + 1, item.from()));
                    }
                }
                for (Item one : found) {
                    if (sets.get(i).add(one)) {
                        work.add(one);
                    }
                }
            }
            if (i == tokens.size()) {
                return whole ? -1 : i;
            }
            if (next.isEmpty()) {
                return i;
            }
            sets.add(next);
        }
        return -1;
    }

    private boolean canBeEmpty(String head) {
        for (List<String> body : rules.get(head)) {
            if (body.isEmpty()) {
                return true;
            }
        }
        return false;
    }
}
