import java.util.ArrayList;
import java.util.Collections;
import java.util.HashMap;
import java.util.HashSet;
import java.util.LinkedHashSet;
import java.util.List;
import java.util.Map;
import java.util.Set;
import java.util.TreeMap;

/**
 * The document once more, as plainly as it can be written, with the whole Java library and without a
 * thought of speed: what RuleSheets answers is held against it. It shares no code with the program.
 */
final class Oracle {
    record Node(String name, boolean variable, List<Node> terms) {
        String text() {
            if (terms.isEmpty()) {
                return name;
            }
            StringBuilder out = new StringBuilder("(").append(name);
            for (Node t : terms) {
                out.append(' ').append(t.text());
            }
            return out.append(')').toString();
        }

        void variables(Set<String> into) {
            if (variable) {
                into.add(name);
            }
            for (Node t : terms) {
                t.variables(into);
            }
        }

        boolean hasVariable() {
            Set<String> found = new HashSet<>();
            variables(found);
            return !found.isEmpty();
        }

        Node with(Map<String, Node> bound) {
            if (variable) {
                return bound.get(name);
            }
            List<Node> mine = new ArrayList<>();
            for (Node t : terms) {
                mine.add(t.with(bound));
            }
            return new Node(name, false, mine);
        }
    }

    enum Kind { POSITIVE, NEGATIVE, DISTINCT }

    record Condition(Kind kind, Node a, Node b) {
    }

    record Rule(Node head, List<Condition> conditions) {
    }

    private static final class NoSheet extends RuntimeException {
        private static final long serialVersionUID = 1;
        final int place;

        NoSheet(int place) {
            this.place = place;
        }
    }

    private static final class TooGreat extends RuntimeException {
        private static final long serialVersionUID = 1;
    }

    // ---- the text

    private String text = "";
    private int where = -1;
    private List<Rule> sheet;
    private List<Node> roles = new ArrayList<>();
    private List<Node> state;
    private All all;

    int put(int signs) {
        StringBuilder more = new StringBuilder();
        for (int k = 0; k < 4; k++) {
            int sign = signs >> 8 * k & 255;
            if (sign != 0 && sign != 10 && (sign < 32 || sign > 126)) {
                throw new IllegalArgumentException();
            }
            if (sign != 0) {
                more.append((char) sign);
            }
        }
        if (text.length() + more.length() > 2000) {
            throw new UnsupportedOperationException();
        }
        text += more;
        return text.length();
    }

    int end(int n) {
        if (n < 0 || n > text.length()) {
            throw new IllegalArgumentException();
        }
        text = text.substring(0, n);
        return 0;
    }

    // ---- sheets

    private int at;
    private Set<String> variables;

    private void skip() {
        while (at < text.length()) {
            char c = text.charAt(at);
            if (c == ';') {
                while (at < text.length() && text.charAt(at) != '\n') {
                    at++;
                }
            } else if (c == ' ' || c == '\n') {
                at++;
            } else {
                return;
            }
        }
    }

    /** The token that comes, "" for the text's end; it stays. */
    private String peek() {
        skip();
        if (at == text.length()) {
            return "";
        }
        char c = text.charAt(at);
        if (c == '(' || c == ')') {
            return "" + c;
        }
        if (text.startsWith("<=", at)) {
            return "<=";
        }
        int begin = c == '?' ? at + 1 : at;
        int k = begin;
        while (k < text.length() && "abcdefghijklmnopqrstuvwxyz0123456789_".indexOf(text.charAt(k)) >= 0) {
            k++;
        }
        if (k == begin || k - begin > 16) {
            throw new NoSheet(at);
        }
        return text.substring(at, k);
    }

    private void take(String token) {
        if (!peek().equals(token)) {
            throw new NoSheet(at);
        }
        at += token.length();
    }

    private String takeName() {
        String token = peek();
        if (token.isEmpty() || "()<?".indexOf(token.charAt(0)) >= 0 || token.equals("not") || token.equals("distinct")) {
            throw new NoSheet(at);
        }
        at += token.length();
        return token;
    }

    private void open(int depth) {
        peek();
        if (depth > 10) {
            throw new NoSheet(at);
        }
        take("(");
    }

    /** An atom or term whose own parentheses would be the depth-th. */
    private Node takeAtom(int depth) {
        if (!peek().equals("(")) {
            return new Node(takeName(), false, List.of());
        }
        open(depth);
        String name = takeName();
        List<Node> terms = new ArrayList<>();
        terms.add(takeTerm(depth + 1));
        while (!peek().equals(")")) {
            if (terms.size() == 4) {
                throw new NoSheet(at);
            }
            terms.add(takeTerm(depth + 1));
        }
        take(")");
        return new Node(name, false, terms);
    }

    private Node takeTerm(int depth) {
        String token = peek();
        if (!token.startsWith("?")) {
            return takeAtom(depth);
        }
        variables.add(token);
        if (variables.size() > 8) {
            throw new NoSheet(at);
        }
        at += token.length();
        return new Node(token, true, List.of());
    }

    private String second() {
        int stay = at;
        take("(");
        try {
            return peek();
        } catch (NoSheet e) {
            return "";
        } finally {
            at = stay;
        }
    }

    private Condition takeCondition() {
        String second = peek().equals("(") ? second() : "";
        if (second.equals("not")) {
            open(2);
            take("not");
            Node atom = takeAtom(3);
            take(")");
            return new Condition(Kind.NEGATIVE, atom, null);
        }
        if (second.equals("distinct")) {
            open(2);
            take("distinct");
            Node a = takeTerm(3);
            Node b = takeTerm(3);
            take(")");
            return new Condition(Kind.DISTINCT, a, b);
        }
        return new Condition(Kind.POSITIVE, takeAtom(2), null);
    }

    private Rule takeRule() {
        variables = new HashSet<>();
        if (!peek().equals("(") || !second().equals("<=")) {
            return new Rule(takeAtom(1), List.of());
        }
        take("(");
        take("<=");
        Node head = takeAtom(2);
        List<Condition> conditions = new ArrayList<>();
        while (!peek().equals(")")) {
            if (conditions.size() == 8) {
                throw new NoSheet(at);
            }
            conditions.add(takeCondition());
        }
        take(")");
        return new Rule(head, conditions);
    }

    private List<Rule> takeSheet() {
        at = 0;
        List<Rule> rules = new ArrayList<>();
        do {
            if (rules.size() == 60) {
                throw new NoSheet(at);
            }
            rules.add(takeRule());
        } while (!peek().isEmpty());
        return rules;
    }

    // ---- faults

    private static List<Node> atoms(Rule rule) {
        List<Node> found = new ArrayList<>();
        found.add(rule.head);
        for (Condition c : rule.conditions) {
            if (c.kind != Kind.DISTINCT) {
                found.add(c.a);
            }
        }
        return found;
    }

    private static int numbers(List<Rule> rules) {
        Map<String, Integer> known = new HashMap<>();
        for (String word : List.of("role", "init", "true", "next")) {
            known.put(word, 1);
        }
        for (String word : List.of("does", "legal", "goal")) {
            known.put(word, 2);
        }
        known.put("terminal", 0);
        for (int r = 0; r < rules.size(); r++) {
            for (Node atom : atoms(rules.get(r))) {
                Integer before = known.putIfAbsent(atom.name, atom.terms.size());
                if (before != null && before != atom.terms.size()) {
                    return r;
                }
            }
        }
        return -1;
    }

    private static int words(List<Rule> rules) {
        for (int r = 0; r < rules.size(); r++) {
            Rule rule = rules.get(r);
            String head = rule.head.name;
            boolean wrong = head.equals("true") || head.equals("does");
            wrong |= head.equals("role") && (!rule.conditions.isEmpty() || rule.head.hasVariable());
            for (Node atom : atoms(rule).subList(1, atoms(rule).size())) {
                wrong |= atom.name.equals("init") || atom.name.equals("next");
            }
            if (wrong) {
                return r;
            }
        }
        return -1;
    }

    private static Map<String, Set<String>> dependence(List<Rule> rules) {
        Map<String, Set<String>> needs = new HashMap<>();
        for (Rule rule : rules) {
            for (Node atom : atoms(rule)) {
                needs.putIfAbsent(atom.name, new HashSet<>());
            }
        }
        boolean more = true;
        while (more) {
            more = false;
            for (Rule rule : rules) {
                Set<String> mine = needs.get(rule.head.name);
                for (Node atom : atoms(rule).subList(1, atoms(rule).size())) {
                    more |= mine.add(atom.name);
                    more |= mine.addAll(new HashSet<>(needs.get(atom.name)));
                }
            }
        }
        return needs;
    }

    private static int unsafe(List<Rule> rules) {
        for (int r = 0; r < rules.size(); r++) {
            Set<String> held = new HashSet<>();
            Set<String> used = new HashSet<>();
            rules.get(r).head.variables(used);
            for (Condition c : rules.get(r).conditions) {
                c.a.variables(c.kind == Kind.POSITIVE ? held : used);
                if (c.b != null) {
                    c.b.variables(used);
                }
            }
            if (!held.containsAll(used)) {
                return r;
            }
        }
        return -1;
    }

    private static boolean circles(String relation, String head, Map<String, Set<String>> needs) {
        return relation.equals(head) || needs.get(relation).contains(head);
    }

    private static int strata(List<Rule> rules, Map<String, Set<String>> needs) {
        for (int r = 0; r < rules.size(); r++) {
            for (Condition c : rules.get(r).conditions) {
                if (c.kind == Kind.NEGATIVE && circles(c.a.name, rules.get(r).head.name, needs)) {
                    return r;
                }
            }
        }
        return -1;
    }

    private static int recursion(List<Rule> rules, Map<String, Set<String>> needs) {
        for (int r = 0; r < rules.size(); r++) {
            Rule rule = rules.get(r);
            Set<Node> held = new HashSet<>(rule.head.terms);
            for (Condition c : rule.conditions) {
                if (c.kind == Kind.POSITIVE && !circles(c.a.name, rule.head.name, needs)) {
                    held.addAll(c.a.terms);
                }
            }
            for (Condition c : rule.conditions) {
                if (c.kind == Kind.POSITIVE && circles(c.a.name, rule.head.name, needs)) {
                    for (Node t : c.a.terms) {
                        if (t.hasVariable() && !held.contains(t)) {
                            return r;
                        }
                    }
                }
            }
        }
        return -1;
    }

    int read() {
        List<Rule> rules;
        try {
            rules = takeSheet();
        } catch (NoSheet e) {
            where = e.place;
            return 1;
        }
        int found = faultOf(rules);
        if (found == 0) {
            where = -1;
            sheet = rules;
            state = null;
            all = null;
            findRoles();
        }
        return found;
    }

    private int faultOf(List<Rule> rules) {
        where = numbers(rules);
        if (where >= 0) {
            return 2;
        }
        where = words(rules);
        if (where >= 0) {
            return 3;
        }
        Map<String, Set<String>> needs = dependence(rules);
        Set<String> none = Set.of();
        Set<String> ofInit = needs.getOrDefault("init", none);
        if (ofInit.contains("true") || ofInit.contains("does")) {
            where = 0;
            return 4;
        }
        List<String> others = List.of("legal", "goal", "terminal");
        for (int k = 0; k < 3; k++) {
            if (needs.getOrDefault(others.get(k), none).contains("does")) {
                where = k + 1;
                return 4;
            }
        }
        where = unsafe(rules);
        if (where >= 0) {
            return 5;
        }
        where = strata(rules, needs);
        if (where >= 0) {
            return 6;
        }
        where = recursion(rules, needs);
        return where >= 0 ? 7 : 0;
    }

    private void findRoles() {
        Set<Node> found = new LinkedHashSet<>();
        for (Rule rule : sheet) {
            if (rule.head.name.equals("role")) {
                found.add(rule.head.terms.get(0));
            }
        }
        roles = new ArrayList<>(found);
        roles = roles.subList(0, Math.min(4, roles.size()));
    }

    int fault() {
        return where;
    }

    private void needSheet() {
        if (sheet == null) {
            throw new IllegalStateException();
        }
    }

    int sheet(int what) {
        needSheet();
        if (what != 0 && what != 1) {
            throw new IllegalArgumentException();
        }
        return what == 0 ? sheet.size() : roles.size();
    }

    // ---- what holds

    private static final class Held {
        final Map<String, Set<Node>> of = new HashMap<>();
        int count;
        long work;

        Set<Node> get(String relation) {
            return of.getOrDefault(relation, Set.of());
        }

        boolean add(Node atom) {
            if (!of.computeIfAbsent(atom.name, k -> new LinkedHashSet<>()).add(atom)) {
                return false;
            }
            count++;
            if (count > 1000) {
                throw new TooGreat();
            }
            for (Node t : atom.terms) {
                if (t.text().length() > 48) {
                    throw new TooGreat();
                }
            }
            return true;
        }

        List<Node> sorted(String relation, int term, Node role) {
            TreeMap<String, Node> found = new TreeMap<>();
            for (Node atom : get(relation)) {
                if (role == null || atom.terms.get(0).equals(role)) {
                    found.put(atom.terms.get(term).text(), atom.terms.get(term));
                }
            }
            return new ArrayList<>(found.values());
        }
    }

    private Map<String, Integer> layers() {
        Map<String, Integer> layer = new HashMap<>();
        for (Rule rule : sheet) {
            for (Node atom : atoms(rule)) {
                layer.put(atom.name, 0);
            }
        }
        boolean more = true;
        while (more) {
            more = false;
            for (Rule rule : sheet) {
                for (Condition c : rule.conditions) {
                    if (c.kind != Kind.DISTINCT) {
                        int least = layer.get(c.a.name) + (c.kind == Kind.NEGATIVE ? 1 : 0);
                        if (layer.get(rule.head.name) < least) {
                            layer.put(rule.head.name, least);
                            more = true;
                        }
                    }
                }
            }
        }
        return layer;
    }

    private Held workOut(List<Node> itsState, List<Node> moves) {
        Held held = new Held();
        for (Node t : itsState) {
            held.add(new Node("true", false, List.of(t)));
        }
        for (int r = 0; r < moves.size(); r++) {
            held.add(new Node("does", false, List.of(roles.get(r), moves.get(r))));
        }
        Map<String, Integer> layer = layers();
        int most = layer.isEmpty() ? 0 : Collections.max(layer.values());
        for (int now = 0; now <= most; now++) {
            boolean more = true;
            while (more) {
                more = false;
                for (Rule rule : sheet) {
                    if (layer.get(rule.head.name) == now && room(rule, held) > 0) {
                        List<Node> heads = new ArrayList<>();
                        ways(rule, 0, new HashMap<>(), held, heads);
                        for (Node head : heads) {
                            more |= held.add(head);
                        }
                    }
                }
            }
        }
        for (Rule rule : sheet) {
            held.work += room(rule, held);
        }
        return held;
    }

    private static long room(Rule rule, Held held) {
        java.math.BigInteger room = java.math.BigInteger.ONE;
        for (Condition c : rule.conditions) {
            if (c.kind == Kind.POSITIVE) {
                room = room.multiply(java.math.BigInteger.valueOf(held.get(c.a.name).size()));
            }
        }
        if (room.compareTo(java.math.BigInteger.valueOf(300000)) > 0) {
            throw new TooGreat();
        }
        return room.longValue();
    }

    private static void ways(Rule rule, int k, Map<String, Node> bound, Held held, List<Node> heads) {
        if (k == rule.conditions.size()) {
            for (Condition c : rule.conditions) {
                if (c.kind == Kind.NEGATIVE && held.get(c.a.name).contains(c.a.with(bound))) {
                    return;
                }
                if (c.kind == Kind.DISTINCT && c.a.with(bound).equals(c.b.with(bound))) {
                    return;
                }
            }
            heads.add(rule.head.with(bound));
            return;
        }
        Condition c = rule.conditions.get(k);
        if (c.kind != Kind.POSITIVE) {
            ways(rule, k + 1, bound, held, heads);
            return;
        }
        for (Node atom : held.get(c.a.name)) {
            Map<String, Node> more = new HashMap<>(bound);
            if (match(c.a, atom, more)) {
                ways(rule, k + 1, more, held, heads);
            }
        }
    }

    private static boolean match(Node pattern, Node term, Map<String, Node> bound) {
        if (pattern.variable) {
            Node before = bound.putIfAbsent(pattern.name, term);
            return before == null || before.equals(term);
        }
        if (!pattern.name.equals(term.name) || pattern.terms.size() != term.terms.size()) {
            return false;
        }
        for (int k = 0; k < term.terms.size(); k++) {
            if (!match(pattern.terms.get(k), term.terms.get(k), bound)) {
                return false;
            }
        }
        return true;
    }

    // ---- states

    private static List<Node> stateOf(Held held, String relation) {
        List<Node> found = held.sorted(relation, 0, null);
        if (found.size() > 60) {
            throw new TooGreat();
        }
        return found;
    }

    private void needState() {
        if (state == null) {
            throw new IllegalStateException();
        }
    }

    private void needRole(int r) {
        if (r < 0 || r >= roles.size()) {
            throw new IndexOutOfBoundsException();
        }
    }

    private Held look() {
        try {
            return workOut(state, List.of());
        } catch (TooGreat e) {
            throw new UnsupportedOperationException();
        }
    }

    int start() {
        needSheet();
        try {
            state = stateOf(workOut(List.of(), List.of()), "init");
        } catch (TooGreat e) {
            throw new UnsupportedOperationException();
        }
        return state.size();
    }

    int moves(int r) {
        needState();
        needRole(r);
        return look().sorted("legal", 1, roles.get(r)).size();
    }

    int terminal() {
        needState();
        return look().get("terminal").size();
    }

    private int goalOf(Held held, int r) {
        Set<Integer> found = new HashSet<>();
        for (Node t : held.sorted("goal", 1, roles.get(r))) {
            if (t.terms.isEmpty() && t.name.matches("[0-9]{1,3}") && Integer.parseInt(t.name) <= 100) {
                found.add(Integer.parseInt(t.name));
            }
        }
        return found.isEmpty() ? -1 : found.size() > 1 ? -2 : found.iterator().next();
    }

    int goal(int r) {
        needState();
        needRole(r);
        return goalOf(look(), r);
    }

    private List<List<Node>> movesOf(Held held) {
        List<List<Node>> found = new ArrayList<>();
        for (Node role : roles) {
            found.add(held.sorted("legal", 1, role));
        }
        return found;
    }

    private static long product(List<List<Node>> moves) {
        long all = moves.isEmpty() ? 0 : 1;
        for (List<Node> some : moves) {
            all *= some.size();
        }
        return all;
    }

    private static List<Node> joint(List<List<Node>> moves, int j) {
        List<Node> found = new ArrayList<>();
        long rest = j;
        long parts = product(moves);
        for (List<Node> some : moves) {
            parts /= some.size();
            found.add(some.get((int) (rest / parts)));
            rest %= parts;
        }
        return found;
    }

    int play(int j) {
        needState();
        if (j < 0 || roles.isEmpty()) {
            throw new IndexOutOfBoundsException();
        }
        List<List<Node>> moves = movesOf(look());
        if (j >= product(moves)) {
            throw new IndexOutOfBoundsException();
        }
        try {
            state = stateOf(workOut(state, joint(moves, j)), "next");
        } catch (TooGreat e) {
            throw new UnsupportedOperationException();
        }
        return state.size();
    }

    int sign(int what, int i, int k) {
        needSheet();
        if (what < 0 || what > 5) {
            throw new IllegalArgumentException();
        }
        if (what < 5) {
            needState();
        }
        if (i < 0 || k < 0) {
            throw new IndexOutOfBoundsException();
        }
        List<Node> from = what == 0 ? state : roles;
        if (what >= 1 && what <= 4) {
            needRole(what - 1);
            from = look().sorted("legal", 1, roles.get(what - 1));
        }
        if (i >= from.size()) {
            throw new IndexOutOfBoundsException();
        }
        String its = from.get(i).text();
        return k < its.length() ? its.charAt(k) : 0;
    }

    // ---- all states

    private static final class All {
        final List<List<Node>> states = new ArrayList<>();
        final Map<List<Node>, Integer> numbers = new HashMap<>();
        final List<Boolean> over = new ArrayList<>();
        final List<List<Integer>> next = new ArrayList<>();
        final List<int[]> moves = new ArrayList<>();
        final List<int[]> goals = new ArrayList<>();
        long work;
        int defect;
        int defectState = -1;
        boolean great;

        int number(List<Node> some) {
            Integer known = numbers.get(some);
            if (known == null) {
                known = states.size();
                if (known == 300) {
                    throw new TooGreat();
                }
                numbers.put(some, known);
                states.add(some);
            }
            return known;
        }

        void work(long more) {
            work += more;
            if (work > 30000000) {
                throw new TooGreat();
            }
        }
    }

    private void find(All found) {
        Held first = workOut(List.of(), List.of());
        found.work(first.work);
        found.number(stateOf(first, "init"));
        for (int n = 0; n < found.states.size(); n++) {
            List<Node> itsState = found.states.get(n);
            Held held = workOut(itsState, List.of());
            found.work(held.work);
            boolean over = !held.get("terminal").isEmpty();
            List<List<Node>> moves = movesOf(held);
            int[] counts = new int[roles.size()];
            int[] goals = new int[roles.size()];
            for (int r = 0; r < roles.size(); r++) {
                counts[r] = moves.get(r).size();
                goals[r] = goalOf(held, r);
            }
            found.over.add(over);
            found.moves.add(counts);
            found.goals.add(goals);
            long joint = over ? 0 : product(moves);
            if (joint > 40) {
                throw new TooGreat();
            }
            List<Integer> next = new ArrayList<>();
            for (int j = 0; j < joint; j++) {
                Held then = workOut(itsState, joint(moves, j));
                found.work(then.work);
                next.add(found.number(stateOf(then, "next")));
            }
            found.next.add(next);
        }
    }

    private int flaw(All found, int n) {
        int[] moves = found.moves.get(n);
        int[] goals = found.goals.get(n);
        if (!found.over.get(n)) {
            if (moves[0] == 0 || moves[1] == 0) {
                return 2;
            }
            return moves[0] > 1 && moves[1] > 1 ? 3 : 0;
        }
        if (goals[0] < 0 || goals[1] < 0) {
            return 4;
        }
        return goals[0] + goals[1] != 100 ? 5 : 0;
    }

    private static boolean comesAgain(All found, int n) {
        Set<Integer> seen = new HashSet<>();
        List<Integer> left = new ArrayList<>(found.next.get(n));
        while (!left.isEmpty()) {
            int to = left.remove(left.size() - 1);
            if (to == n) {
                return true;
            }
            if (seen.add(to)) {
                left.addAll(found.next.get(to));
            }
        }
        return false;
    }

    private void judge(All found) {
        if (roles.size() != 2) {
            found.defect = 1;
            return;
        }
        for (int n = 0; n < found.states.size(); n++) {
            if (flaw(found, n) != 0) {
                found.defect = flaw(found, n);
                found.defectState = n;
                return;
            }
        }
        for (int n = 0; n < found.states.size(); n++) {
            if (comesAgain(found, n)) {
                found.defect = 6;
                found.defectState = n;
                return;
            }
        }
    }

    int explore() {
        needSheet();
        if (all == null) {
            all = new All();
            try {
                find(all);
                judge(all);
            } catch (TooGreat e) {
                all.great = true;
            }
        }
        if (all.great) {
            throw new UnsupportedOperationException();
        }
        return all.states.size();
    }

    private void needStates() {
        if (all == null || all.great) {
            throw new IllegalStateException();
        }
    }

    private void needNumber(int n) {
        if (n < 0 || n >= all.states.size()) {
            throw new IndexOutOfBoundsException();
        }
    }

    int defect(int what) {
        needStates();
        if (what != 0 && what != 1) {
            throw new IllegalArgumentException();
        }
        return what == 0 ? all.defect : all.defectState;
    }

    int state(int n, int what) {
        needStates();
        needNumber(n);
        if (what < 0 || what > 2) {
            throw new IllegalArgumentException();
        }
        return what == 0 ? all.states.get(n).size() : what == 1 ? all.over.get(n) ? 1 : 0 : all.next.get(n).size();
    }

    int next(int n, int j) {
        needStates();
        needNumber(n);
        if (j < 0 || j >= all.next.get(n).size()) {
            throw new IndexOutOfBoundsException();
        }
        return all.next.get(n).get(j);
    }

    private final Map<All, Map<Integer, Integer>> values = new HashMap<>();

    private int valueOf(int n) {
        Map<Integer, Integer> known = values.computeIfAbsent(all, k -> new HashMap<>());
        if (!known.containsKey(n)) {
            known.put(n, reckon(n));
        }
        return known.get(n);
    }

    private int reckon(int n) {
        if (all.over.get(n)) {
            return all.goals.get(n)[0];
        }
        List<Integer> those = new ArrayList<>();
        for (int to : all.next.get(n)) {
            those.add(valueOf(to));
        }
        if (all.moves.get(n)[0] > 1) {
            return Collections.max(those);
        }
        return Collections.min(those);
    }

    private void needValues() {
        needStates();
        if (all.defect != 0) {
            throw new IllegalStateException();
        }
    }

    int value(int n) {
        needValues();
        needNumber(n);
        return valueOf(n);
    }

    int best(int n) {
        needValues();
        needNumber(n);
        if (all.over.get(n)) {
            return -1;
        }
        int j = 0;
        while (valueOf(all.next.get(n).get(j)) != valueOf(n)) {
            j++;
        }
        return j;
    }
}
