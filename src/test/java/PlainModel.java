import java.util.ArrayList;
import java.util.Arrays;
import java.util.List;
import java.util.TreeSet;

/**
 * A second reading of the document, written the long way round (objects, doubles, all 200 rounds,
 * a search in templates), so that DraughtsByCandle can be compared with something of another shape.
 */
final class PlainModel {
    record Air(int warm, int wind, int side, int fan) {}

    /** otherRoom is -9 for a hole. */
    record Opening(int room, int otherRoom, char kind, int size, int height, int side, int price) {
        boolean door() {
            return kind == 'd';
        }

        Opening sized(int newSize) {
            return new Opening(room, otherRoom, kind, newSize, height, side, price);
        }

        int outside(Air a) {
            return switch (kind) {
                case 'p' -> a.warm() * (5 - height) + wind(a);
                case 'l' -> as('p', a) + a.warm();
                case 't' -> as('p', a) - a.warm();
                case 'w' -> as('p', a) + wind(a);
                case 'c' -> as('t', a) - 3 * a.warm() - 2 * a.wind();
                case 'f' -> as('p', a) + a.fan();
                case 's' -> as('c', a) - 20;
                default -> throw new IllegalStateException("no hole");
            };
        }

        private int as(char otherKind, Air a) {
            return new Opening(room, otherRoom, otherKind, size, height, side, price).outside(a);
        }

        private int wind(Air a) {
            int whole = a.wind() * a.wind();
            if (side == a.side()) return whole;
            if (Math.abs(side - a.side()) == 2) return -(whole / 2);
            return 0;
        }
    }

    record House(int rooms, List<Opening> openings, List<Air> weathers) {
        House with(int i, Opening o) {
            List<Opening> changed = new ArrayList<>(openings);
            changed.set(i, o);
            return new House(rooms, changed, weathers);
        }

        House without(int bits) {
            List<Opening> changed = new ArrayList<>();
            for (int i = 0; i < openings.size(); i++) {
                changed.add((bits & 1 << i) != 0 ? openings.get(i).sized(0) : openings.get(i));
            }
            return new House(rooms, changed, weathers);
        }

        House more(Opening o) {
            List<Opening> changed = new ArrayList<>(openings);
            changed.add(o);
            return new House(rooms, changed, weathers);
        }
    }

    record State(House house, Air now, String letters, List<Integer> row) {}

    static final class Settled {
        final House house;
        final Air air;
        final int[] push;

        Settled(House house, Air air) {
            this.house = house;
            this.air = air;
            push = new int[house.rooms()];
            for (int round = 0; round < 200; round++) {
                for (int r = 0; r < push.length; r++) {
                    int in = 0, out = 0;
                    for (Opening o : house.openings()) {
                        int f = flow(o);
                        if (o.door() && o.room() == r) f = -f;
                        else if (o.door() && o.otherRoom() != r) f = 0;
                        else if (!o.door() && o.room() != r) f = 0;
                        if (f > 0) in += f;
                        else out -= f;
                    }
                    if (in > out) push[r]++;
                    if (in < out) push[r]--;
                }
            }
        }

        int flow(Opening o) {
            int first = o.door() ? push[o.room()] : o.outside(air);
            int second = o.door() ? push[o.otherRoom()] : push[o.room()];
            int much = o.size() * (int) Math.floor(Math.sqrt(Math.abs(first - second)));
            return first > second ? much : -much;
        }

        int flow(int i) {
            return flow(house.openings().get(i));
        }

        int in() {
            return house.openings().stream().filter(o -> !o.door()).mapToInt(o -> Math.max(0, flow(o))).sum();
        }

        int coal() {
            return in() * air.warm();
        }

        boolean smokes() {
            return house.openings().stream().anyMatch(o -> o.kind() == 's' && o.size() > 0 && flow(o) >= 0);
        }

        int lean(int i) {
            return flow(i) > 0 ? 1 : flow(i) < 0 ? 2 : 0;
        }
    }

    private House house = new House(2, List.of(), List.of());
    private Air now = new Air(10, 0, 0, 0);
    private String letters = "";
    private List<Integer> row = new ArrayList<>();
    private State image = null;
    private final int[] refused = new int[7];

    private int no(int number) {
        refused[-number]++;
        return number;
    }

    private int far(int number) {
        return 1000000000 - no(number);
    }

    private boolean isOpening(int i) {
        return i >= 0 && i < house.openings().size();
    }

    private Settled settled() {
        return new Settled(house, now);
    }

    int letter(int c) {
        if (c < 0) return no(-4);
        if (c > 255 || letters.length() == 80) return no(-6);
        letters += (char) c;
        return letters.length();
    }

    /** Every shape that a statement may have; 9 stands for any digit, k for any kind. */
    private static final List<String> SHAPES = List.of("n9;", "d999;", "h9k999,9;", "h9k999,99;",
            "w9,9,9;", "w9,99,9;", "w99,9,9;", "w99,99,9;");

    private static boolean fits(String text, String shape, int length) {
        if (text.length() < length || shape.length() < length) return false;
        for (int i = 0; i < length; i++) {
            char s = shape.charAt(i), c = text.charAt(i);
            boolean ok = s == '9' ? "0123456789".indexOf(c) >= 0 : s == 'k' ? "pltwcfs".indexOf(c) >= 0 : s == c;
            if (!ok) return false;
        }
        return true;
    }

    private static String firstStatement(String text) {
        for (String shape : SHAPES) {
            if (fits(text, shape, shape.length())) return text.substring(0, shape.length());
        }
        return null;
    }

    private static int longestBeginning(String text) {
        int longest = 0;
        for (String shape : SHAPES) {
            for (int n = 1; n <= shape.length(); n++) {
                if (fits(text, shape, n)) longest = Math.max(longest, n);
            }
        }
        return longest;
    }

    int house() {
        String text = letters;
        letters = "";
        List<String> statements = new ArrayList<>();
        int place = 0;
        do {
            String statement = firstStatement(text.substring(place));
            if (statement == null) return -1000 - place - longestBeginning(text.substring(place));
            statements.add(statement);
            place += statement.length();
        } while (place < text.length());
        House to = house;
        place = 0;
        for (String statement : statements) {
            to = behind(to, statement);
            if (to == null) return -2000 - place;
            place += statement.length();
        }
        house = to;
        return statements.size();
    }

    private static House behind(House h, String s) {
        String[] parts = s.substring(1, s.length() - 1).split(",");
        boolean full = h.openings().size() == 10;
        switch (s.charAt(0)) {
            case 'n': {
                int n = Integer.parseInt(parts[0]);
                for (Opening o : h.openings()) if (n <= o.room() || n <= o.otherRoom()) return null;
                return n < 1 || n > 6 ? null : new House(n, h.openings(), h.weathers());
            }
            case 'd': {
                int a = s.charAt(1) - '0', b = s.charAt(2) - '0';
                if (a == b || a >= h.rooms() || b >= h.rooms() || full) return null;
                return h.more(new Opening(a, b, 'd', s.charAt(3) - '0', 0, 0, 0));
            }
            case 'h': {
                int r = s.charAt(1) - '0', side = s.charAt(5) - '0';
                if (r >= h.rooms() || side > 3 || full) return null;
                return h.more(new Opening(r, -9, s.charAt(2), s.charAt(3) - '0', s.charAt(4) - '0', side,
                        Integer.parseInt(parts[1])));
            }
            default: {
                int warm = Integer.parseInt(parts[0]), wind = Integer.parseInt(parts[1]), side = Integer.parseInt(parts[2]);
                if (warm > 40 || wind > 20 || side > 3 || h.weathers().size() == 4) return null;
                List<Air> weathers = new ArrayList<>(h.weathers());
                weathers.add(new Air(warm, wind, side, 0));
                return new House(h.rooms(), h.openings(), weathers);
            }
        }
    }

    int hole(int hole, int what) {
        if (!isOpening(hole)) return no(-1);
        if (what < 0 || what > 6) return no(-2);
        Opening o = house.openings().get(hole);
        return new int[] {o.room(), o.otherRoom(), "pltwcfsd".indexOf(o.kind()), o.size(), o.height(), o.side(), o.price()}[what];
    }

    int weather(int weather, int what) {
        if (weather < 0 || weather >= house.weathers().size()) return no(-1);
        if (what < 0 || what > 2) return no(-2);
        Air a = house.weathers().get(weather);
        return new int[] {a.warm(), a.wind(), a.side()}[what];
    }

    int set(int what, int v) {
        if (what < 0 || what > 2) return no(-2);
        if (v < 0) return no(-4);
        if (v > new int[] {40, 20, 3}[what]) return no(-6);
        int[] to = {now.warm(), now.wind(), now.side()};
        int was = to[what];
        to[what] = v;
        now = new Air(to[0], to[1], to[2], now.fan());
        return was;
    }

    int fan(int v) {
        if (v < -50) return no(-4);
        if (v > 50) return no(-6);
        now = new Air(now.warm(), now.wind(), now.side(), v);
        return v + 50;
    }

    int now(int what) {
        if (what < 0 || what > 3) return far(-2);
        return new int[] {now.warm(), now.wind(), now.side(), now.fan()}[what];
    }

    int size(int hole, int v) {
        if (!isOpening(hole)) return no(-1);
        if (v < 0) return no(-4);
        if (v > 9) return no(-6);
        int was = house.openings().get(hole).size();
        house = house.with(hole, house.openings().get(hole).sized(v));
        return was;
    }

    int outside(int hole) {
        if (!isOpening(hole)) return far(-1);
        if (house.openings().get(hole).door()) return far(-3);
        return house.openings().get(hole).outside(now);
    }

    int push(int room) {
        return room < 0 || room >= house.rooms() ? far(-1) : settled().push[room];
    }

    int flow(int hole) {
        return isOpening(hole) ? settled().flow(hole) : far(-1);
    }

    int lean(int hole) {
        return isOpening(hole) ? settled().lean(hole) : no(-1);
    }

    int coal() {
        return settled().coal();
    }

    int smokes() {
        return settled().smokes() ? 1 : 0;
    }

    int stopped(int holes) {
        for (int bit = 0; bit < 32; bit++) {
            if ((holes >>> bit & 1) == 1 && !isOpening(bit)) return no(-1);
        }
        return new Settled(house.without(holes), now).coal();
    }

    int best(int coin, int what) {
        if (what != 0 && what != 1) return no(-2);
        if (coin < 0) return no(-4);
        if (coin > 99) return no(-6);
        TreeSet<Long> found = new TreeSet<>();
        for (int set = 0; set < 1 << house.openings().size(); set++) {
            int price = 0;
            boolean doors = false;
            for (int i = 0; i < house.openings().size(); i++) {
                if ((set & 1 << i) != 0) {
                    price += house.openings().get(i).price();
                    doors |= house.openings().get(i).door();
                }
            }
            if (doors || price > coin || Integer.bitCount(set) > 3) continue;
            Settled s = new Settled(house.without(set), now);
            if (!s.smokes()) found.add(s.coal() * 10000L + set);
        }
        if (found.isEmpty()) return -9;
        return (int) (what == 0 ? found.first() % 10000 : found.first() / 10000);
    }

    int pairs(int what) {
        if (what != 0 && what != 1) return no(-2);
        int coal = coal();
        List<Integer> found = new ArrayList<>();
        for (int a = 0; a < house.openings().size(); a++) {
            for (int b = a + 1; b < house.openings().size(); b++) {
                if (house.openings().get(a).door() || house.openings().get(b).door()) continue;
                boolean aloneNothing = new Settled(house.without(1 << a), now).coal() >= coal
                        && new Settled(house.without(1 << b), now).coal() >= coal;
                if (aloneNothing && new Settled(house.without(1 << a | 1 << b), now).coal() < coal) found.add(10 * a + b);
            }
        }
        return what == 0 ? found.size() : found.isEmpty() ? -9 : found.get(0);
    }

    int shut(int door, int hole) {
        if (!isOpening(door) || !isOpening(hole)) return far(-1);
        if (!house.openings().get(door).door()) return far(-3);
        return Math.abs(new Settled(house.without(1 << door), now).flow(hole)) - Math.abs(settled().flow(hole));
    }

    int chair() {
        Settled s = settled();
        int[] through = new int[house.rooms()];
        for (Opening o : house.openings()) {
            through[o.room()] += Math.abs(s.flow(o));
            if (o.door()) through[o.otherRoom()] += Math.abs(s.flow(o));
        }
        int least = Arrays.stream(through).min().getAsInt();
        for (int r = 0; ; r++) if (through[r] == least) return r;
    }

    int finger() {
        TreeSet<Long> found = new TreeSet<>();
        for (int i = 0; i < house.openings().size(); i++) {
            Opening o = house.openings().get(i);
            if (o.door() || o.size() == 9) continue;
            Settled s = new Settled(house.with(i, o.sized(o.size() + 1)), now);
            if (s.flow(i) > 0) found.add(s.coal() * 100L + i);
        }
        return found.isEmpty() ? -9 : (int) (found.first() % 100);
    }

    int number(int fan) {
        if (fan < -50) return no(-4);
        if (fan > 50) return no(-6);
        return new Settled(house, new Air(0, 0, now.side(), fan)).in();
    }

    private List<Settled> inWeathers() {
        return house.weathers().stream()
                .map(a -> new Settled(house, new Air(a.warm(), a.wind(), a.side(), now.fan()))).toList();
    }

    int winter() {
        return inWeathers().stream().mapToInt(Settled::coal).sum();
    }

    int turnsAbout() {
        int bits = 0;
        for (Settled s : inWeathers()) {
            for (Settled t : inWeathers()) {
                for (int i = 0; i < house.openings().size(); i++) {
                    if (s.lean(i) == 1 && t.lean(i) == 2) bits |= 1 << i;
                }
            }
        }
        return bits;
    }

    int sizes(int hole, int felt, int what) {
        if (!isOpening(hole)) return no(-1);
        if (what < 0 || what > 2) return no(-2);
        TreeSet<Integer> found = new TreeSet<>();
        for (int v = 0; v < 10; v++) {
            if (new Settled(house.with(hole, house.openings().get(hole).sized(v)), now).flow(hole) == felt) found.add(v);
        }
        if (what == 2) return found.size();
        return found.isEmpty() ? -9 : what == 0 ? found.first() : found.last();
    }

    int hidden(int size, int coal) {
        if (size < 0 || coal < 0) return no(-4);
        if (size > 9 || house.openings().size() == 10) return no(-6);
        for (int r = 0; r < house.rooms(); r++) {
            if (new Settled(house.more(new Opening(r, -9, 'p', size, 5, 0, 0)), now).coal() == coal) return r;
        }
        return -9;
    }

    int days(int n, int z) {
        if (n < 1) return no(-4);
        if (n > 30) return no(-6);
        int smoky = 0;
        int[] drawn = new int[3];
        for (int day = 0; day < n; day++) {
            for (int i = 0; i < 3; i++) {
                z = (int) (z * 1664525L + 1013904223L);
                drawn[i] = ((z << 1 >>> 1) / 256) % new int[] {41, 21, 4}[i];
            }
            if (new Settled(house, new Air(drawn[0], drawn[1], drawn[2], now.fan())).smokes()) smoky++;
        }
        return smoky;
    }

    int row(int lean) {
        if (lean < 0) return no(-4);
        if (lean > 2 || row.size() == 10) return no(-6);
        row.add(lean);
        return row.size();
    }

    int judge() {
        List<Integer> looked = row;
        row = new ArrayList<>();
        Settled s = settled();
        List<Integer> leans = new ArrayList<>();
        for (int i = 0; i < house.openings().size(); i++) leans.add(s.lean(i));
        if (looked.equals(leans)) return -9;
        int i = 0;
        while (i < looked.size() && i < leans.size() && looked.get(i).equals(leans.get(i))) i++;
        return i;
    }

    int image() {
        image = new State(house, now, letters, List.copyOf(row));
        return house.openings().size();
    }

    int on() {
        if (image == null) return no(-3);
        house = image.house();
        now = image.now();
        letters = image.letters();
        row = new ArrayList<>(image.row());
        return house.openings().size();
    }

    int count(int what) {
        if (what >= 11 && what <= 16) return refused[what - 10];
        return switch (what) {
            case 0 -> house.rooms();
            case 1 -> house.openings().size();
            case 2 -> (int) house.openings().stream().filter(Opening::door).count();
            case 3 -> house.weathers().size();
            case 4 -> house.openings().stream().mapToInt(Opening::size).sum();
            case 5 -> row.size();
            case 6 -> letters.length();
            default -> -9;
        };
    }
}
