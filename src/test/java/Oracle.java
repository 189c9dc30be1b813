import java.util.ArrayDeque;
import java.util.ArrayList;
import java.util.Comparator;
import java.util.Deque;
import java.util.List;
import java.util.stream.IntStream;

/**
 * The document once more, written another way and with no thought of speed: immutable orders, wars that are copied,
 * texts that are tried in every way in which they could go on. {@link OracleTest} holds the class against it.
 */
final class Oracle {
    private static final int[] LEAST = {8, 1, 1, 1};
    private static final int[] GREATEST = {32, 150, 8, 32};
    private static final int[] PARENT = {-1, 0, 1, 0, 3, 0, 3};
    private static final String[] WORDS = {"die", "copy", "add", "jump", "ifz", "skip", "split"};
    private static final int[] ADDRESSES = {0, 2, 2, 1, 2, 2, 1};

    record Order(int kind, int modeA, int a, int modeB, int b) {
        static final Order EMPTY = new Order(0, 4, 0, 4, 0);

        Order with(int newA, int newB, int cells) {
            return new Order(kind, modeA, Math.floorMod(newA, cells), modeB, Math.floorMod(newB, cells));
        }

        int what(int what) {
            return new int[] {kind, modeA, a, modeB, b}[what];
        }
    }

    private static final class Side {
        Deque<Integer> threads = new ArrayDeque<>();
        int died = -5;
        int killer = -5;
    }

    private final class Battle {
        final Order[] orders;
        final int[] owner;
        final int[] heat;
        final List<Side> sides = new ArrayList<>();
        int turns;
        int last = -1;
        int lastWrite;

        Battle(int cells) {
            orders = new Order[cells];
            java.util.Arrays.fill(orders, Order.EMPTY);
            owner = new int[cells];
            java.util.Arrays.fill(owner, -5);
            heat = new int[cells];
        }

        Battle copied() {
            Battle other = new Battle(orders.length);
            System.arraycopy(orders, 0, other.orders, 0, orders.length);
            System.arraycopy(owner, 0, other.owner, 0, orders.length);
            System.arraycopy(heat, 0, other.heat, 0, orders.length);
            for (Side side : sides) {
                Side copy = new Side();
                copy.threads.addAll(side.threads);
                copy.died = side.died;
                copy.killer = side.killer;
                other.sides.add(copy);
            }
            other.turns = turns;
            other.last = last;
            return other;
        }

        int cut(int cell) {
            return Math.floorMod(cell, orders.length);
        }

        Battle add(List<Order> fighter, int at) {
            Side side = new Side();
            side.threads.add(at);
            for (int i = 0; i < fighter.size(); i++) {
                Order order = fighter.get(i);
                orders[cut(at + i)] = order.with(order.a, order.b, orders.length);
                owner[cut(at + i)] = sides.size();
            }
            sides.add(side);
            return this;
        }

        boolean lives(int side) {
            return !sides.get(side).threads.isEmpty();
        }

        boolean over() {
            long living = IntStream.range(0, sides.size()).filter(this::lives).count();
            return turns >= limit() || living == 0 || sides.size() > 1 && living == 1;
        }

        boolean write(int from, int to, Order order) {
            int far = Math.min(cut(from - to), cut(to - from));
            if (far > physics[3]) {
                return false;
            }
            orders[to] = order.with(order.a, order.b, orders.length);
            owner[to] = last;
            heat[to]++;
            lastWrite = to;
            return true;
        }

        int place(int c, int mode, int number) {
            if (mode == 4) {
                return c;
            }
            int p = cut(c + number);
            if (mode == 0) {
                return p;
            }
            if (mode == 2) {
                write(c, p, orders[p].with(orders[p].a, orders[p].b - 1, orders.length));
            }
            int found = cut(p + orders[p].b);
            if (mode == 3) {
                write(c, p, orders[p].with(orders[p].a, orders[p].b + 1, orders.length));
            }
            return found;
        }

        void turn() {
            lastWrite = -1;
            int n = sides.size();
            int mover = IntStream.rangeClosed(1, n).map(k -> Math.floorMod(last + k, n)).filter(this::lives)
                .findFirst().orElse(-1);
            if (mover < 0) {
                return;
            }
            last = mover;
            turns++;
            Side side = sides.get(mover);
            int c = side.threads.removeFirst();
            Order order = orders[c];
            int ownerThen = owner[c];
            int a = place(c, order.modeA, order.a);
            int b = place(c, order.modeB, order.b);
            Order from = orders[a];
            Order to = orders[b];
            boolean own = order.modeA == 4;
            int cells = orders.length;
            switch (WORDS[order.kind]) {
                case "die" -> {
                    if (side.threads.isEmpty()) {
                        side.died = turns;
                        side.killer = ownerThen;
                    }
                }
                case "copy" -> {
                    write(c, b, own ? to.with(to.a, order.a, cells) : from);
                    side.threads.addLast(cut(c + 1));
                }
                case "add" -> {
                    write(c, b, own ? to.with(to.a, to.b + order.a, cells) : to.with(to.a + from.a, to.b + from.b, cells));
                    side.threads.addLast(cut(c + 1));
                }
                case "jump" -> side.threads.addLast(a);
                case "ifz" -> side.threads.addLast((order.modeB == 4 ? order.b : to.b) == 0 ? a : cut(c + 1));
                case "skip" -> side.threads.addLast(cut(c + ((own ? order.a == to.b : from.equals(to)) ? 2 : 1)));
                default -> {
                    boolean room = side.threads.size() + 1 < physics[2];
                    side.threads.addLast(cut(c + 1));
                    if (room) {
                        side.threads.addLast(a);
                    }
                }
            }
        }

        Battle finish() {
            while (!over()) {
                turn();
            }
            return this;
        }

        String look() {
            return List.of(orders) + " " + sides.get(0).threads;
        }
    }

    private final int[] physics = {16, 100, 4, 32};
    private final List<List<Order>> fighters = new ArrayList<>();
    private Battle war = new Battle(16);
    private Battle kept;
    private String text = "";
    private final List<Integer> bodies = new ArrayList<>();
    private int actKind;
    private int actCell;
    private int actNumber;
    private final long[][] tapes = new long[6][];
    private final int[] sorts = new int[6];

    private int limit() {
        return physics[1];
    }

    private boolean none(int fighter) {
        return fighter < 0 || fighter >= fighters.size();
    }

    int physics(int what, int n) {
        if (what < 0 || what > 3) {
            return -1;
        }
        if (n < LEAST[what] || n > GREATEST[what]) {
            return -2;
        }
        if (!war.sides.isEmpty()) {
            return -3;
        }
        int was = physics[what];
        physics[what] = n;
        war = new Battle(physics[0]);
        return was;
    }

    int feed(int bytes, int n) {
        if (n < 0 || n > 4) {
            return -2;
        }
        if (text.length() + n > 150) {
            return -4;
        }
        String more = "";
        for (int k = 0; k < n; k++) {
            more = (char) (bytes >> 8 * k & 255) + more;
        }
        text += more;
        return text.length();
    }

    int fighter() {
        if (fighters.size() == 8) {
            return -4;
        }
        String all = text;
        text = "";
        for (int end = 1; end <= all.length(); end++) {
            if (!begins(all.substring(0, end), 0, 0, "")) {
                return -10 - (end - 1);
            }
        }
        if (!isWhole(all)) {
            return -10 - all.length();
        }
        List<Order> orders = new ArrayList<>();
        int untold = fold(all, orders);
        if (untold >= 0) {
            return -10 - untold;
        }
        fighters.add(orders);
        return fighters.size() - 1;
    }

    /** Whether some text that is well but for names begins as s does; s is well up to from, where an order begins. */
    private static boolean begins(String s, int from, int orders, String told) {
        if (orders == 8) {
            return false;
        }
        for (int kind = 0; kind < 7; kind++) {
            for (String name : ("," + "a,b,c,d,e,f").split(",")) {
                if (!name.isEmpty() && told.contains(name)) {
                    continue;
                }
                String head = (name.isEmpty() ? "" : name + ":") + WORDS[kind];
                if (head.startsWith(s.substring(from))) {
                    return true;
                }
                if (s.startsWith(head, from)
                    && beginsAddresses(s, from + head.length(), ADDRESSES[kind], orders + 1, told + name)) {
                    return true;
                }
            }
        }
        return false;
    }

    private static boolean beginsAddresses(String s, int from, int left, int orders, String told) {
        if (from == s.length()) {
            return true;
        }
        if (left == 0) {
            return s.charAt(from) == ';' && (from + 1 == s.length() ? orders < 8 : begins(s, from + 1, orders, told));
        }
        for (int length = 1; from + length <= s.length() && length <= 5; length++) {
            String part = s.substring(from, from + length);
            if (from + length == s.length() && part.matches(" |( [.@<>#](-?\\d{0,2}|[a-f]?))")) {
                return true;
            }
            if (part.matches(" [.@<>#](-?\\d{1,2}|[a-f])") && beginsAddresses(s, from + length, left - 1, orders, told)) {
                return true;
            }
        }
        return false;
    }

    private static boolean isWhole(String s) {
        String address = " [.@<>#](-?\\d{1,2}|[a-f])";
        String order = "([a-f]:)?(die|(jump|split)" + address + "|(copy|add|ifz|skip)" + address + address + ")";
        return s.matches(order + "(;" + order + ")*");
    }

    private static int fold(String s, List<Order> orders) {
        String[] parts = s.split(";");
        int[] names = new int[6];
        java.util.Arrays.fill(names, -1);
        for (int i = 0; i < parts.length; i++) {
            if (parts[i].length() > 1 && parts[i].charAt(1) == ':') {
                names[parts[i].charAt(0) - 'a'] = i;
                parts[i] = "  " + parts[i].substring(2);
            }
        }
        int start = 0;
        for (int i = 0; i < parts.length; i++) {
            String[] words = parts[i].trim().split(" ");
            int[] modes = {4, 4};
            int[] numbers = {0, 0};
            int at = start + parts[i].indexOf(words[0]) + words[0].length();
            for (int k = 1; k < words.length; k++) {
                modes[k - 1] = ".@<>#".indexOf(words[k].charAt(0));
                char second = words[k].charAt(1);
                boolean named = second >= 'a';
                if (named && names[second - 'a'] < 0) {
                    return at + 2;
                }
                numbers[k - 1] = named ? names[second - 'a'] - i : Integer.parseInt(words[k].substring(1));
                at += 1 + words[k].length();
            }
            orders.add(new Order(List.of(WORDS).indexOf(words[0]), modes[0], numbers[0], modes[1], numbers[1]));
            start += parts[i].length() + 1;
        }
        return -1;
    }

    int load(int tape, int i, int n) {
        if (tape < 0 || tape > 5) {
            return -1;
        }
        if (n < 1 || n > 8) {
            return -2;
        }
        if (fighters.size() == 8) {
            return -4;
        }
        if (tapes[tape] == null) {
            return -11;
        }
        if (sorts[tape] != 1) {
            return -12;
        }
        if (i < 0 || (long) i + 5 * n > tapes[tape].length) {
            return -13;
        }
        List<Order> orders = new ArrayList<>();
        for (int k = 0; k < n; k++) {
            long[] v = java.util.Arrays.copyOfRange(tapes[tape], i + 5 * k, i + 5 * k + 5);
            boolean modes = v[1] >= 0 && v[1] <= 4 && v[3] >= 0 && v[3] <= 4;
            if (v[0] < 0 || v[0] > 6 || !modes || Math.abs(v[2]) > 99 || Math.abs(v[4]) > 99) {
                return -2;
            }
            orders.add(new Order((int) v[0], (int) v[1], (int) v[2], (int) v[3], (int) v[4]));
        }
        fighters.add(orders);
        return fighters.size() - 1;
    }

    long of(int fighter, int i, int what) {
        if (none(fighter)) {
            return Long.MIN_VALUE;
        }
        List<Order> orders = fighters.get(fighter);
        if (i == -1) {
            return orders.size();
        }
        if (i < 0 || i >= orders.size() || what < 0 || what > 4) {
            return Long.MIN_VALUE;
        }
        return orders.get(i).what(what);
    }

    int clear() {
        int sides = war.sides.size();
        war = new Battle(physics[0]);
        return sides;
    }

    int set(int fighter, int cell) {
        if (none(fighter) || cell < 0 || cell >= physics[0]) {
            return -1;
        }
        if (war.turns > 0) {
            return -3;
        }
        if (war.sides.size() == 4) {
            return -4;
        }
        war.add(fighters.get(fighter), cell);
        return war.sides.size() - 1;
    }

    int run(int n) {
        if (n < 1 || n > 150) {
            return -2;
        }
        if (war.over()) {
            return -3;
        }
        int before = war.turns;
        while (war.turns < before + n && !war.over()) {
            war.turn();
        }
        return war.turns - before;
    }

    int cell(int cell, int what) {
        if (cell < 0 || cell >= physics[0] || what < 0 || what > 6) {
            return -1;
        }
        return what < 5 ? war.orders[cell].what(what) : what == 5 ? war.owner[cell] : war.heat[cell];
    }

    int thread(int side, int i) {
        if (side < 0 || side >= war.sides.size()) {
            return -1;
        }
        List<Integer> threads = new ArrayList<>(war.sides.get(side).threads);
        return i == -1 ? threads.size() : i < 0 || i >= threads.size() ? -1 : threads.get(i);
    }

    int died(int side, int what) {
        if (side < 0 || side >= war.sides.size() || what != 0 && what != 1) {
            return -1;
        }
        return what == 0 ? war.sides.get(side).died : war.sides.get(side).killer;
    }

    int state(int what) {
        return switch (what) {
            case 0 -> war.turns;
            case 1 -> war.over() ? 1 : 0;
            case 2 -> IntStream.range(0, physics[0]).boxed()
                .max(Comparator.<Integer>comparingInt(c -> war.heat[c]).thenComparing(c -> -c)).get();
            case 3 -> IntStream.range(0, war.sides.size()).filter(war::lives).map(s -> 1 << s).sum();
            default -> -1;
        };
    }

    private Battle duelOf(List<Order> f, List<Order> g, int d) {
        return new Battle(physics[0]).add(f, 0).add(g, d).finish();
    }

    private static int verdict(Battle battle) {
        return (battle.lives(0) ? 1 : 0) - (battle.lives(1) ? 1 : 0);
    }

    private int[] allOf(List<Order> f, List<Order> g) {
        int[] tally = new int[3];
        for (int d = f.size(); d <= physics[0] - g.size(); d++) {
            tally[1 - verdict(duelOf(f, g, d))]++;
        }
        return tally;
    }

    private int table(List<Order> f, List<Order> g) {
        int[] tally = allOf(f, g);
        return tally[0] - tally[2];
    }

    int duel(int f, int g, int d, int what) {
        if (none(f) || none(g) || what != 0 && what != 1) {
            return -1;
        }
        if (d < 0 || d >= physics[0]) {
            return -2;
        }
        Battle battle = duelOf(fighters.get(f), fighters.get(g), d);
        return what == 0 ? 1 + verdict(battle) : battle.turns;
    }

    int all(int f, int g, int what) {
        return none(f) || none(g) || what < 0 || what > 2 ? -1 : allOf(fighters.get(f), fighters.get(g))[what];
    }

    int key(int f, int g) {
        if (none(f) || none(g)) {
            return -1;
        }
        List<Order> one = fighters.get(f);
        List<Order> other = fighters.get(g);
        if (table(one, other) <= 0) {
            return -5;
        }
        return IntStream.range(0, one.size()).filter(i -> {
            List<Order> less = new ArrayList<>(one);
            less.set(i, Order.EMPTY);
            return table(less, other) <= 0;
        }).findFirst().orElse(-5);
    }

    private static List<Order> changed(List<Order> f, int i, int which, int number) {
        List<Order> changed = new ArrayList<>(f);
        Order o = f.get(i);
        changed.set(i, new Order(o.kind, o.modeA, which == 0 ? number : o.a, o.modeB, which == 1 ? number : o.b));
        return changed;
    }

    int tune(int f, int i, int which, int g) {
        if (none(f) || none(g) || i < 0 || i >= fighters.get(f).size() || which < 0 || which > 1) {
            return -1;
        }
        int[] tables = IntStream.range(0, physics[0])
            .map(n -> table(changed(fighters.get(f), i, which, n), fighters.get(g))).toArray();
        int greatest = IntStream.of(tables).max().getAsInt();
        return IntStream.range(0, tables.length).filter(n -> tables[n] == greatest).findFirst().getAsInt();
    }

    int worth(int f) {
        if (none(f)) {
            return -1;
        }
        return IntStream.range(0, fighters.size()).filter(g -> g != f).map(g -> {
            int[] tally = allOf(fighters.get(f), fighters.get(g));
            return 3 * tally[0] + tally[1];
        }).sum();
    }

    int ladder(int i) {
        if (none(i)) {
            return -1;
        }
        int[] worths = IntStream.range(0, fighters.size()).map(this::worth).toArray();
        return IntStream.range(0, fighters.size()).boxed().sorted(Comparator.comparingInt(f -> -worths[f])).toList()
            .get(i);
    }

    int ring(int i) {
        if (i < 0 || i > 2) {
            return -1;
        }
        int n = fighters.size();
        boolean[][] beats = new boolean[n][n];
        for (int f = 0; f < n; f++) {
            for (int g = 0; g < n; g++) {
                beats[f][g] = table(fighters.get(f), fighters.get(g)) > 0;
            }
        }
        for (int row = 0; row < n * n * n; row++) {
            int[] r = {row / n / n, row / n % n, row % n};
            boolean apart = r[0] < r[1] && r[0] < r[2] && r[1] != r[2];
            if (apart && beats[r[0]][r[1]] && beats[r[1]][r[2]] && beats[r[2]][r[0]]) {
                return r[i];
            }
        }
        return -5;
    }

    int unlike(int f, int g) {
        if (none(f) || none(g)) {
            return -1;
        }
        return fighters.stream()
            .mapToInt(h -> Math.abs(table(fighters.get(f), h) - table(fighters.get(g), h))).sum();
    }

    int garden(int set, int what) {
        if (what != 0 && what != 1) {
            return -1;
        }
        List<Integer> members = new ArrayList<>();
        for (int bit = 0; bit < 32; bit++) {
            if ((set & 1 << bit) != 0) {
                members.add(bit);
            }
        }
        if (members.size() < 2 || members.size() > 4 || members.stream().anyMatch(this::none)) {
            return -2;
        }
        Battle battle = new Battle(physics[0]);
        for (int i = 0; i < members.size(); i++) {
            battle.add(fighters.get(members.get(i)), (int) Math.floor((double) physics[0] * i / members.size()));
        }
        battle.finish();
        return what == 1 ? battle.turns
            : IntStream.range(0, members.size()).filter(battle::lives).map(i -> 1 << members.get(i)).sum();
    }

    private Battle alone(List<Order> f) {
        return new Battle(physics[0]).add(f, 0);
    }

    int sturdy(int f) {
        if (none(f)) {
            return -1;
        }
        int alive = 0;
        for (int i = 0; i < fighters.get(f).size(); i++) {
            Order o = fighters.get(f).get(i);
            alive += alone(changed(fighters.get(f), i, 0, o.a + 1)).finish().lives(0) ? 1 : 0;
            alive += alone(changed(fighters.get(f), i, 1, o.b + 1)).finish().lives(0) ? 1 : 0;
        }
        return alive;
    }

    int round(int f) {
        if (none(f)) {
            return -1;
        }
        Battle battle = alone(fighters.get(f));
        List<String> looks = new ArrayList<>();
        looks.add(battle.look());
        while (!battle.over()) {
            battle.turn();
            looks.add(battle.look());
        }
        if (!battle.lives(0)) {
            return -5;
        }
        int n = limit();
        return IntStream.range(1, n).filter(p -> looks.get(n - p).equals(looks.get(n))).findFirst().orElse(-5);
    }

    int same(int f, int g) {
        if (none(f) || none(g)) {
            return -1;
        }
        Battle one = alone(fighters.get(f));
        Battle other = alone(fighters.get(g));
        for (int t = 1; t <= limit(); t++) {
            one.turn();
            other.turn();
            if (one.lastWrite != other.lastWrite || one.lives(0) != other.lives(0)) {
                return t;
            }
        }
        return -5;
    }

    int image() {
        kept = war.copied();
        return war.turns;
    }

    int back() {
        if (kept == null || kept.orders.length != physics[0]) {
            return -3;
        }
        war = kept.copied();
        return war.turns;
    }

    /** The body of an act from a kind on upwards: 0 reads, 1 does, 2 ends. */
    private int body(int from, int act, int x) {
        int kind = from;
        while (true) {
            int above = PARENT[kind];
            switch (kind * 10 + act) {
                case 0:
                    bodies.add(10);
                    return x + actCell;
                case 1:
                    bodies.add(11);
                    return body(actKind, 0, x) - actNumber;
                case 2:
                    bodies.add(12);
                    return body(actKind, 1, x) * 2;
                case 11:
                    bodies.add(20);
                    return body(above, 1, x) ^ 5;
                case 21:
                    bodies.add(30);
                    return body(above, 1, x) + body(above, 0, 2);
                case 22:
                    bodies.add(31);
                    return body(above, 2, x - 1);
                case 30:
                    bodies.add(40);
                    return -body(above, 0, x);
                case 42:
                    bodies.add(50);
                    return body(actKind, 1, x) - body(above, 2, x);
                case 52:
                    bodies.add(60);
                    return body(above, 2, x) + body(actKind, 0, 1);
                case 60:
                    bodies.add(70);
                    return body(above, 0, x * 3);
                case 61:
                    bodies.add(71);
                    return body(above, 1, x) ^ actCell;
                default:
                    kind = above;
            }
        }
    }

    int act(int cell, int act, int x) {
        bodies.clear();
        if (cell < 0 || cell >= physics[0] || act < 0 || act > 2) {
            return 0;
        }
        actKind = war.orders[cell].kind;
        actCell = cell;
        actNumber = war.orders[cell].b;
        return body(actKind, act, x);
    }

    int trace(int i) {
        return i < 0 || i >= bodies.size() || i >= 20 ? -1 : bodies.get(i);
    }

    int taken(int cell, int k) {
        if (k < 0 || k > 6) {
            return -2;
        }
        if (cell < 0 || cell >= physics[0]) {
            return -11;
        }
        int kind = war.orders[cell].kind;
        return IntStream.iterate(kind, at -> at >= 0, at -> PARENT[at]).anyMatch(at -> at == k) ? kind : -12;
    }

    int count(int what) {
        if (what < 0 || what > 7) {
            return -2;
        }
        return what < 4 ? physics[what]
            : new int[] {fighters.size(), war.sides.size(), text.length(), bodies.size()}[what - 4];
    }

    int tape(int tape, int sort, int n) {
        if (tape < 0 || tape > 5) {
            return -1;
        }
        if (sort == -1) {
            tapes[tape] = null;
            return 1;
        }
        if (sort < -1 || sort > 4 || n > 60) {
            return -2;
        }
        if (n < 0) {
            return -14;
        }
        tapes[tape] = new long[n];
        sorts[tape] = sort;
        return 1;
    }

    int item(int tape, int i, long v) {
        if (tape < 0 || tape > 5) {
            return -1;
        }
        if (tapes[tape] == null) {
            return -11;
        }
        if (i < 0 || i >= tapes[tape].length) {
            return -13;
        }
        int spare = new int[] {56, 48, 32, 0, 0}[sorts[tape]];
        tapes[tape][i] = sorts[tape] == 4 ? (v == 0 ? 0 : 1) : v << spare >> spare;
        return 1;
    }

    long read(int tape, int i) {
        boolean there = tape >= 0 && tape <= 5 && tapes[tape] != null && i >= 0 && i < tapes[tape].length;
        return there ? tapes[tape][i] : Long.MIN_VALUE;
    }

    int shift(int tape, int i, int other, int j, int n) {
        if (tape < 0 || tape > 5 || other < 0 || other > 5) {
            return -1;
        }
        if (tapes[tape] == null || tapes[other] == null) {
            return -11;
        }
        if (sorts[tape] != sorts[other]) {
            return -12;
        }
        if (n < 0 || i < 0 || j < 0 || (long) i + n > tapes[tape].length || (long) j + n > tapes[other].length) {
            return -13;
        }
        long[] before = tapes[tape].clone();
        for (int k = 0; k < n; k++) {
            tapes[other][j + k] = before[i + k];
        }
        return n;
    }
}
