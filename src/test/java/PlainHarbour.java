import java.math.BigInteger;
import java.util.ArrayList;
import java.util.Arrays;
import java.util.HashSet;
import java.util.List;
import java.util.Set;
import java.util.TreeSet;
import java.util.regex.Matcher;
import java.util.regex.Pattern;

/** The document once more, slowly and with the library: what ModelTest holds TideDice against. */
final class PlainHarbour {
    private static final int BAD = -1, STATE = -2, FULL = -3, NONE = -9, NO = -1000000;

    /** What an IMAGE keeps, but for what may be UNDONE. */
    private static final class Now {
        final int[] owner = new int[19];
        final int[] tides = new int[2];
        final boolean[] blind = new boolean[2];
        int wind;
        int mover;
        List<Integer> lying;

        Now() {
            Arrays.fill(owner, NONE);
        }

        Now copy() {
            Now other = new Now();
            System.arraycopy(owner, 0, other.owner, 0, owner.length);
            System.arraycopy(tides, 0, other.tides, 0, 2);
            System.arraycopy(blind, 0, other.blind, 0, 2);
            other.wind = wind;
            other.mover = mover;
            other.lying = lying;
            return other;
        }
    }

    private static final class Image {
        final Now now;
        final List<Now> undos;

        Image(Now now, List<Now> undos) {
            this.now = now.copy();
            this.undos = new ArrayList<>(undos);
        }
    }

    private final StringBuilder text = new StringBuilder();
    private List<List<Integer>> dice = firstDice();
    private int berths = 12;
    private int goal = 4;
    private Now now = new Now();
    private List<Now> undos = new ArrayList<>();
    private final Image[] images = new Image[2];
    private final List<int[]> chalk = new ArrayList<>();
    private long trace;

    private static List<List<Integer>> firstDice() {
        List<List<Integer>> dice = new ArrayList<>();
        for (int d = 0; d < 3; d++) {
            dice.add(List.of(1, 2, 3, 4, 5, 6));
        }
        return dice;
    }

    public int type(int c) {
        if (c < 0 || c > 255) return BAD;
        if (text.length() == 120) return FULL;
        text.append((char) c);
        return text.length();
    }

    public int clear() {
        int had = text.length();
        text.setLength(0);
        return had;
    }

    public int harbour() {
        List<List<Integer>> newDice = firstDice();
        int newBerths = 12;
        int newGoal = 4;
        int told = 0;
        int items = 0;
        Set<String> once = new HashSet<>();
        String item = "";
        List<Integer> numbers = new ArrayList<>();
        Matcher tokens = Pattern.compile("[a-z]+|[0-9]+|;|[^ ]", Pattern.DOTALL).matcher(text);
        while (tokens.find()) {
            String token = tokens.group();
            int fault = -10 - tokens.start();
            if (item.isEmpty()) {
                boolean die = token.equals("d") && told < 3;
                boolean other = (token.equals("b") || token.equals("g")) && once.add(token);
                if (!die && !other) return fault;
                item = token;
            } else if (token.equals(";")) {
                if (numbers.isEmpty()) return fault;
                if (item.equals("d")) newDice.set(told++, numbers);
                if (item.equals("b")) newBerths = numbers.get(0);
                if (item.equals("g")) newGoal = numbers.get(0);
                numbers = new ArrayList<>();
                item = "";
                items++;
            } else {
                if (!token.matches("0|[1-9][0-9]?")) return fault;
                int number = Integer.parseInt(token);
                int least = item.equals("b") ? 3 : 1;
                int most = item.equals("b") ? 18 : 9;
                if (number < least || number > most || numbers.size() == (item.equals("d") ? 6 : 1)) return fault;
                numbers.add(number);
            }
        }
        if (!item.isEmpty()) return -10 - text.length();
        dice = newDice;
        berths = newBerths;
        goal = newGoal;
        now = new Now();
        undos.clear();
        Arrays.fill(images, null);
        chalk.clear();
        text.setLength(0);
        return items;
    }

    public int die(int d, int i) {
        if (d < 0 || d > 2 || i < -1 || i >= dice.get(d).size()) return BAD;
        return i == -1 ? dice.get(d).size() : dice.get(d).get(i);
    }

    public int berth(int b) {
        return b < 1 || b > berths ? BAD : now.owner[b];
    }

    public int player(int p, int what) {
        if (p < 0 || p > 1 || what < 0 || what > 3) return BAD;
        if (what == 0) return bits(ownedBy(p));
        if (what == 1) return now.tides[p];
        if (what == 2) return now.blind[p] ? 1 : 0;
        int missing = goal - ownedBy(p).size();
        if (missing <= 0) return 0;
        Set<Integer> free = everOpen();
        free.removeIf(b -> now.owner[b] != NONE);
        return free.size() < missing ? NONE : missing;
    }

    private Set<Integer> ownedBy(int p) {
        Set<Integer> owned = new TreeSet<>();
        for (int b = 1; b <= berths; b++) {
            if (now.owner[b] == p) owned.add(b);
        }
        return owned;
    }

    private static int bits(Set<Integer> places) {
        int bits = 0;
        for (int place : places) bits += 1 << place;
        return bits;
    }

    private Set<Integer> everOpen() {
        Set<Integer> ever = new TreeSet<>();
        for (List<Integer> t : allThrows()) {
            ever.addAll(byThrow(t, 0));
            ever.addAll(byThrow(t, 1));
        }
        return ever;
    }

    private List<List<Integer>> allThrows() {
        List<List<Integer>> all = new ArrayList<>();
        for (int a : dice.get(0)) for (int b : dice.get(1)) for (int c : dice.get(2)) all.add(List.of(a, b, c));
        return all;
    }

    /** The BERTHS of a THROW in a WIND, nobody having any. */
    private Set<Integer> byThrow(List<Integer> thrown, int wind) {
        Set<Integer> found = new TreeSet<>();
        for (int some = 1; some < 8; some++) {
            int sum = 0;
            for (int d = 0; d < 3; d++) {
                if ((some >> d) % 2 == 1) sum += thrown.get(d);
            }
            if (sum <= berths) found.add(wind == 0 ? sum : berths + 1 - sum);
        }
        return found;
    }

    private static int turned(List<Integer> thrown, int wind) {
        return new HashSet<>(thrown).size() == 2 ? 1 - wind : wind;
    }

    /** What a THROW opens if it is thrown NOW, and a BERTH (or 0) was taken ahead of it. */
    private Set<Integer> openIfThrown(List<Integer> thrown, int taken) {
        Set<Integer> open = byThrow(thrown, turned(thrown, now.wind));
        open.removeIf(b -> now.owner[b] != NONE || b == taken);
        return open;
    }

    private Set<Integer> openNow() {
        if (now.lying == null) return new TreeSet<>();
        Set<Integer> open = byThrow(now.lying, now.wind);
        open.removeIf(b -> now.owner[b] != NONE);
        return open;
    }

    private int winner() {
        if (ownedBy(0).size() >= goal) return 0;
        return ownedBy(1).size() >= goal ? 1 : NONE;
    }

    private int whoMoves() {
        return winner() == NONE ? now.mover : NONE;
    }

    private void remember() {
        undos.add(now.copy());
        if (undos.size() > 12) undos.remove(0);
    }

    private void turnEnds() {
        if (winner() != NONE) return;
        int other = 1 - now.mover;
        if (now.blind[other] && now.lying == null) {
            now.blind[other] = false;
        } else {
            now.mover = other;
        }
    }

    public int throwsDice(int a, int b, int c) {
        if (!dice.get(0).contains(a) || !dice.get(1).contains(b) || !dice.get(2).contains(c)) return BAD;
        if (now.lying != null || winner() != NONE) return STATE;
        remember();
        now.lying = List.of(a, b, c);
        now.wind = turned(now.lying, now.wind);
        if (a == b && b == c) now.blind[now.mover] = true;
        return bits(openNow());
    }

    private int tidesFor(int b) {
        int tides = 0;
        for (int below = 1; below < b; below++) {
            if (now.owner[below] == 1 - now.mover) tides++;
        }
        return tides;
    }

    public int takes(int b) {
        if (b < 1 || b > berths) return BAD;
        if (winner() != NONE || !openNow().contains(b)) return STATE;
        remember();
        int tides = tidesFor(b);
        now.tides[1 - now.mover] += tides;
        now.owner[b] = now.mover;
        now.lying = null;
        turnEnds();
        return tides;
    }

    public int passes() {
        if (now.lying == null || !openNow().isEmpty() || winner() != NONE) return STATE;
        remember();
        now.lying = null;
        turnEnds();
        return whoMoves();
    }

    public int leaves() {
        if (now.lying == null || winner() != NONE) return STATE;
        remember();
        now.tides[1 - now.mover]++;
        turnEnds();
        return whoMoves();
    }

    public int undo() {
        if (undos.isEmpty()) return STATE;
        // A copy, since an image may hold the same one.
        now = undos.remove(undos.size() - 1).copy();
        return undos.size();
    }

    public int now(int what) {
        if (what == 0) return whoMoves();
        if (what == 1) return now.wind;
        if (what == 2) return now.lying == null ? NONE : code(now.lying);
        if (what == 3) return bits(openNow());
        if (what == 4) return winner();
        return what == 5 ? now.tides[0] - now.tides[1] : NO;
    }

    private static int code(List<Integer> thrown) {
        return 100 * thrown.get(0) + 10 * thrown.get(1) + thrown.get(2);
    }

    private static int fraction(int upper, int lower, int what) {
        BigInteger common = BigInteger.valueOf(upper).gcd(BigInteger.valueOf(lower));
        return BigInteger.valueOf(what == 0 ? upper : lower).divide(common).intValueExact();
    }

    private int throwsOpening(int b) {
        int many = 0;
        for (List<Integer> t : allThrows()) {
            if (openIfThrown(t, 0).contains(b)) many++;
        }
        return many;
    }

    public int chance(int b, int what) {
        if (b < 1 || b > berths || what < 0 || what > 1) return BAD;
        return fraction(throwsOpening(b), allThrows().size(), what);
    }

    public int odds(int which, int what) {
        if (which < 0 || which > 2 || what < 0 || what > 1) return BAD;
        int all = 0;
        int none = 0;
        int open = 0;
        for (List<Integer> t : allThrows()) {
            all++;
            open += openIfThrown(t, 0).size();
            if (openIfThrown(t, 0).isEmpty()) none++;
        }
        if (which == 0) return fraction(none, all, what);
        if (which == 2) return fraction(open, all, what);
        return none == all ? NONE : fraction(all, all - none, what);
    }

    public int wise(int what) {
        if (what < 0 || what > 1) return BAD;
        int best = NONE;
        int fewest = Integer.MAX_VALUE;
        for (int b : openNow()) {
            int many = 0;
            for (List<Integer> t : allThrows()) {
                if (!openIfThrown(t, b).isEmpty()) many++;
            }
            if (many < fewest) {
                fewest = many;
                best = b;
            }
        }
        return what == 0 || best == NONE ? best : fewest;
    }

    public int cheap() {
        // Who takes a higher one never gives less.
        for (int b : openNow()) return b;
        return NONE;
    }

    public int ever() {
        return bits(everOpen());
    }

    public int chalks(int b, int n) {
        if (b < 1 || b > berths || n < 0 || n > 216) return BAD;
        if (chalk.size() == 6) return FULL;
        chalk.add(new int[] {b, n});
        return chalk.size();
    }

    public int wipes() {
        int had = chalk.size();
        chalk.clear();
        return had;
    }

    public int wrong() {
        int bits = 0;
        for (int k = 0; k < chalk.size(); k++) {
            if (off(k) != 0) bits |= 1 << k;
        }
        return bits;
    }

    public int off(int k) {
        if (k < 0 || k >= chalk.size()) return NO;
        return chalk.get(k)[1] * allThrows().size() - 216 * throwsOpening(chalk.get(k)[0]);
    }

    public int bet() {
        int best = NONE;
        for (int k = chalk.size() - 1; k >= 0; k--) {
            if (off(k) != 0 && (best == NONE || Math.abs(off(k)) >= Math.abs(off(best)))) best = k;
        }
        return best;
    }

    public int third(int x, int y, int b) {
        if (!dice.get(0).contains(x) || !dice.get(1).contains(y) || b < 1 || b > berths) return BAD;
        Set<Integer> pips = new TreeSet<>(dice.get(2));
        pips.removeIf(z -> !byThrow(List.of(x, y, z), now.wind).contains(b));
        return bits(pips);
    }

    public int threw(int b, int what) {
        if (b < 1 || b > berths || what < 0 || what > 1) return BAD;
        List<List<Integer>> by = allThrows();
        by.removeIf(t -> !byThrow(t, now.wind).contains(b));
        if (what == 0) return by.size();
        return by.isEmpty() ? NONE : code(by.get(0));
    }

    private int wins(int i, int j) {
        int wins = 0;
        for (int m : dice.get(i)) for (int n : dice.get(j)) if (m > n) wins++;
        return wins;
    }

    public int beats(int i, int j, int what) {
        if (i < 0 || i > 2 || j < 0 || j > 2 || i == j || what < 0 || what > 1) return BAD;
        return fraction(wins(i, j), dice.get(i).size() * dice.get(j).size(), what);
    }

    public int ring() {
        boolean one = true;
        boolean two = true;
        for (int i = 0; i < 3; i++) {
            int j = (i + 1) % 3;
            int pairs = dice.get(i).size() * dice.get(j).size();
            one &= wins(i, j) > pairs - wins(i, j);
            two &= wins(j, i) > pairs - wins(j, i);
        }
        return one ? 1 : two ? 2 : 0;
    }

    public int mark(int kind, int b) {
        if (kind < 0 || kind > 5 || b < 1 || b > berths) return NO;
        int[] tolls = {1, 11, 101, 1011, 10101, 100001};
        trace += tolls[kind];
        int ship = b + throwsOpening(b);
        int quay = b - ownedBy(0).size() - ownedBy(1).size();
        int[] marks = {b, ship, quay, 2 * ship, quay + 7 * now.wind, b + now.tides[0] + now.tides[1]};
        return marks[kind];
    }

    public int keep(int image) {
        if (image < 0 || image > 1) return BAD;
        images[image] = new Image(now, undos);
        return whoMoves();
    }

    public int back(int image) {
        if (image < 0 || image > 1) return BAD;
        if (images[image] == null) return STATE;
        now = images[image].now.copy();
        undos = new ArrayList<>(images[image].undos);
        return whoMoves();
    }

    public int count(int what) {
        int[] counts = {berths, goal, allThrows().size(), chalk.size(), undos.size(), text.length()};
        return what < 0 || what > 5 ? BAD : counts[what];
    }

    public long trace() {
        return trace;
    }
}
