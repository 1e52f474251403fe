import java.util.ArrayList;
import java.util.List;

/**
 * The document once more, in another shape: kinds as classes, texts as trees, all ways tried,
 * sheets as Java's own arrays. What it answers is compared with the class by RandomTest.
 */
final class Reference {
    static final int[][] WALLS = {{0, 1}, {2, 3}, {4, 5}, {6, 7}, {0, 2}, {1, 3}, {2, 4}, {3, 5}, {4, 6}, {5, 7}};

    static class Dream implements Cloneable {
        int number, space, purse = 100, owe, room = -1;
        int kind() { return 0; }
        int needs() { return space; }
        boolean lies(int floor) { return true; }
        int pays(int v) { return v; }
        int bears() { return 20; }
        Dream copy() {
            try {
                return (Dream) clone();
            } catch (CloneNotSupportedException e) {
                throw new IllegalStateException(e);
            }
        }
    }

    static class Sea extends Dream {
        @Override int kind() { return 1; }
        @Override int needs() { return 2 * super.needs(); }
        @Override boolean lies(int floor) { return floor == 0 || floor == 1; }
        @Override int pays(int v) { return number + super.pays(v); }
    }

    static class Flying extends Dream {
        @Override int kind() { return 2; }
        @Override boolean lies(int floor) { return floor == 2 || floor == 3; }
        @Override int pays(int v) { return 2 * super.pays(v); }
        @Override int bears() { return super.bears() + number; }
    }

    static final class Nightmare extends Sea {
        @Override int kind() { return 3; }
        @Override boolean lies(int floor) { return super.lies(floor) || floor == 3; }
        @Override int pays(int v) { return super.pays(v) / 2; }
        @Override int bears() { return super.bears() - 20; }
    }

    static final class Party extends Flying {
        @Override int kind() { return 4; }
        @Override int needs() { return super.needs() + number; }
        @Override int pays(int v) { return super.pays(v) + number; }
    }

    static final class Simple extends Dream {
        @Override int kind() { return 5; }
        @Override int needs() { return super.needs() / 2; }
        @Override int bears() { return super.bears() + 5 * number; }
    }

    static final Class<?>[] CLASSES = {Dream.class, Sea.class, Flying.class, Nightmare.class, Party.class, Simple.class};

    static Dream made(int kind) {
        switch (kind) {
            case 1: return new Sea();
            case 2: return new Flying();
            case 3: return new Nightmare();
            case 4: return new Party();
            case 5: return new Simple();
            default: return new Dream();
        }
    }

    static final class State {
        int[] sizes = {10, 10, 10, 10, 10, 10, 10, 10};
        int lined, night, taken, rule;
        List<Dream> dreams = new ArrayList<>();

        State copy() {
            State s = new State();
            s.sizes = sizes.clone();
            s.lined = lined;
            s.night = night;
            s.taken = taken;
            s.rule = rule;
            for (Dream d : dreams) {
                s.dreams.add(d.copy());
            }
            return s;
        }
    }

    interface Node { int value(int[] names); }

    static final class Fault extends RuntimeException {
        private static final long serialVersionUID = 1;
        final int place;
        Fault(int place) { super("fault", null, false, false); this.place = place; }
    }

    /** Reads straight from the letters, each token as it is asked for. */
    static final class Parser {
        final String s;
        int at;
        int open;

        Parser(String s) { this.s = s; }

        void skip() {
            while (at < s.length() && (s.charAt(at) == ' ' || s.charAt(at) == '\n')) at++;
        }

        String peek() {
            skip();
            if (at >= s.length()) return "";
            int end = at;
            if (Character.toString(s.charAt(at)).matches("[a-z]")) {
                while (end < s.length() && Character.toString(s.charAt(end)).matches("[a-z]")) end++;
            } else if (Character.toString(s.charAt(at)).matches("[0-9]")) {
                while (end < s.length() && Character.toString(s.charAt(end)).matches("[0-9]")) end++;
            } else {
                end++;
            }
            return s.substring(at, end);
        }

        Fault fault() { skip(); return new Fault(at); }

        boolean take(String token) {
            if (!peek().equals(token)) return false;
            at += token.length();
            return true;
        }

        void need(String token) { if (!take(token)) throw fault(); }

        void opens() {
            if (open == 5) throw fault();
            open++;
        }

        Node[] text() {
            Node[] parts = new Node[3];
            String[] keys = {"rents", "leaks", "minds"};
            for (int i = 0; i < 3; i++) {
                need(keys[i]);
                parts[i] = e();
                need(";");
            }
            if (!peek().isEmpty()) throw fault();
            return parts;
        }

        Node e() {
            Node a = and();
            while (take("or")) {
                Node l = a, r = and();
                a = n -> l.value(n) != 0 | r.value(n) != 0 ? 1 : 0;
            }
            return a;
        }

        Node and() {
            Node a = not();
            while (take("and")) {
                Node l = a, r = not();
                a = n -> l.value(n) != 0 & r.value(n) != 0 ? 1 : 0;
            }
            return a;
        }

        Node not() {
            if (peek().equals("not")) {
                opens();
                take("not");
                Node a = not();
                open--;
                return n -> a.value(n) != 0 ? 0 : 1;
            }
            Node l = sum();
            if (take("<")) {
                Node r = sum();
                return n -> l.value(n) < r.value(n) ? 1 : 0;
            }
            if (take("=")) {
                Node r = sum();
                return n -> l.value(n) == r.value(n) ? 1 : 0;
            }
            return l;
        }

        Node sum() {
            Node a = term();
            while (true) {
                Node l = a;
                if (take("+")) {
                    Node r = term();
                    a = n -> l.value(n) + r.value(n);
                } else if (take("-")) {
                    Node r = term();
                    a = n -> l.value(n) - r.value(n);
                } else {
                    return a;
                }
            }
        }

        Node term() {
            Node a = one();
            while (take("*")) {
                Node l = a, r = one();
                a = n -> l.value(n) * r.value(n);
            }
            return a;
        }

        Node one() {
            String token = peek();
            if (token.matches("[0-9]{1,4}")) {
                take(token);
                int v = Integer.parseInt(token);
                return n -> v;
            }
            int name = List.of("size", "floor", "night", "number", "owes", "space").indexOf(token);
            if (name >= 0) {
                take(token);
                return n -> n[name];
            }
            if (token.equals("-")) {
                opens();
                take("-");
                Node a = one();
                open--;
                return n -> -a.value(n);
            }
            if (token.equals("(")) {
                opens();
                take("(");
                Node a = e();
                need(")");
                open--;
                return a;
            }
            throw fault();
        }
    }

    State now = new State();
    State image;
    final List<Node[]> texts = new ArrayList<>();
    final StringBuilder tape = new StringBuilder();
    final Object[] sheets = new Object[4];

    Reference() {
        texts.add(new Parser("rents size + floor ; leaks space ; minds 0 ;").text());
    }

    static int bound(int v, int most) { return v < 0 ? 0 : v > most ? most : v; }

    int value(State s, int part, Dream d, int room) {
        return texts.get(s.rule)[part].value(new int[] {s.sizes[room], room / 2, s.night, d.number, d.owe, d.space});
    }

    int pays(State s, Dream d, int room) { return bound(d.pays(bound(value(s, 0, d, room), 99)), 999); }

    int leaks(State s, Dream d, int room) { return bound(value(s, 1, d, room), 99); }

    int minds(State s, Dream d, int room) { return bound(value(s, 2, d, room), 9); }

    static boolean fits(State s, Dream d, int room) { return d.lies(room / 2) && d.needs() <= s.sizes[room]; }

    static Dream in(State s, int room) {
        for (Dream d : s.dreams) if (d.room == room) return d;
        return null;
    }

    int leak(State s, int wall) {
        int r0 = WALLS[wall][0], r1 = WALLS[wall][1];
        Dream a = in(s, r0), b = in(s, r1);
        if (a == null || b == null || (s.lined & 1 << wall) != 0) return 0;
        return leaks(s, a, r0) * minds(s, b, r1) + leaks(s, b, r1) * minds(s, a, r0);
    }

    int worth(State s) {
        int w = 0;
        for (Dream d : s.dreams) if (d.room >= 0) w += pays(s, d, d.room);
        for (int i = 0; i < 10; i++) w -= leak(s, i);
        return w;
    }

    /** The numbers of those that are put out. */
    List<Integer> night(State s) {
        List<Integer> outs = new ArrayList<>();
        for (int i = 0; i < s.dreams.size(); i++) {
            Dream d = s.dreams.get(i);
            if (d.room < 0) continue;
            int p = pays(s, d, d.room);
            if (d.purse >= p) {
                d.purse -= p;
                s.taken += p;
            } else {
                d.owe = Math.min(9999, d.owe + p);
            }
            if (d.owe > d.bears()) {
                d.room = -1;
                outs.add(i);
            }
        }
        s.night++;
        return outs;
    }

    boolean noDream(int d) { return d < 0 || d >= now.dreams.size(); }

    static boolean noRoom(int r) { return r < 0 || r > 7; }

    static boolean not(int v, int least, int most) { return v < least || v > most; }

    int set(int what, int of, int v) {
        if (not(what, 0, 6)) return -2;
        if (what == 2 && noRoom(of) || what > 2 && noDream(of)) return -2;
        int[][] bounds = {{0, 1023}, {0, 999}, {1, 40}, {0, 9}, {1, 20}, {0, 9999}, {0, 9999}};
        if (not(v, bounds[what][0], bounds[what][1])) return -2;
        int was = told(of, what);
        if (what == 0) now.lined = v;
        if (what == 1) now.night = v;
        if (what == 2) now.sizes[of] = v;
        if (what == 3) now.dreams.get(of).number = v;
        if (what == 4) now.dreams.get(of).space = v;
        if (what == 5) now.dreams.get(of).purse = v;
        if (what == 6) now.dreams.get(of).owe = v;
        return was;
    }

    int dream(int kind, int number, int space) {
        if (not(kind, 0, 5) || not(number, 0, 9) || not(space, 1, 20)) return -2;
        if (now.dreams.size() == 5) return -4;
        Dream d = made(kind);
        d.number = number;
        d.space = space;
        now.dreams.add(d);
        return now.dreams.size() - 1;
    }

    int let(int dream, int room) {
        if (noDream(dream) || not(room, -1, 7)) return -2;
        Dream d = now.dreams.get(dream);
        if (room >= 0 && !fits(now, d, room)) return -3;
        if (room >= 0 && in(now, room) != null && in(now, room) != d) return -4;
        int was = d.room;
        d.room = room;
        return was;
    }

    int told(int of, int what) {
        if (what == 0) return now.lined;
        if (what == 1) return now.night;
        if (what == 2) return noRoom(of) ? -2 : now.sizes[of];
        if (noDream(of) || not(what, 3, 10)) return -2;
        Dream d = now.dreams.get(of);
        return new int[] {d.number, d.space, d.purse, d.owe, d.room, d.kind(), d.needs(), d.bears()}[what - 3];
    }

    int would(int dream, int room, int what) {
        if (noDream(dream) || noRoom(room) || not(what, 0, 3)) return -2;
        Dream d = now.dreams.get(dream);
        int fits = fits(now, d, room) ? 1 : 0;
        return new int[] {fits, pays(now, d, room), leaks(now, d, room), minds(now, d, room)}[what];
    }

    int who(int room) { return noRoom(room) ? -2 : now.dreams.indexOf(in(now, room)); }

    int feed(int letter) {
        if (not(letter, 0, 255)) return -2;
        if (tape.length() == 160) return -4;
        tape.append((char) letter);
        return tape.length();
    }

    int text() {
        if (texts.size() == 6) return -4;
        String s = tape.toString();
        tape.setLength(0);
        try {
            texts.add(new Parser(s).text());
        } catch (Fault f) {
            return -100 - f.place;
        }
        return texts.size() - 1;
    }

    int force(int text) {
        if (not(text, 0, texts.size() - 1)) return -2;
        int was = now.rule;
        now.rule = text;
        return was;
    }

    int leak(int wall) { return not(wall, 0, 9) ? -2 : leak(now, wall); }

    int worth() { return worth(now); }

    int night() { return now.night == 999 ? -3 : night(now).size(); }

    int run(int n, int what) {
        if (not(n, 0, 60) || not(what, 0, 3) && (what < 10 || noDream(what - 10))) return -2;
        State s = now.copy();
        int first = -1, when = -1, in = 0;
        for (int i = 0; i < n; i++) {
            List<Integer> outs = night(s);
            if (when < 0 && !outs.isEmpty()) {
                first = outs.get(0);
                when = i;
            }
        }
        for (Dream d : s.dreams) if (d.room >= 0) in++;
        return what >= 10 ? s.dreams.get(what - 10).purse : new int[] {s.taken - now.taken, first, when, in}[what];
    }

    int[] best;

    int best(int what) {
        if (not(what, 0, now.dreams.size())) return -100000;
        best = null;
        all(now.copy(), 0);
        return best[what];
    }

    /** Every way, with its worth reckoned anew. */
    private void all(State s, int i) {
        if (i == s.dreams.size()) {
            int w = worth(s);
            if (best == null || w > best[0]) {
                best = new int[i + 1];
                best[0] = w;
                for (int k = 0; k < i; k++) best[k + 1] = s.dreams.get(k).room;
            }
            return;
        }
        Dream d = s.dreams.get(i);
        for (int k = i; k < s.dreams.size(); k++) s.dreams.get(k).room = -1;
        for (int room = -1; room < 8; room++) {
            d.room = -1;
            if (room < 0 || fits(s, d, room) && in(s, room) == null) {
                d.room = room;
                all(s, i + 1);
                for (int k = i + 1; k < s.dreams.size(); k++) s.dreams.get(k).room = -1;
            }
        }
        d.room = -1;
    }

    int change(int what) {
        if (not(what, 0, 1)) return -100000;
        int who = -1, most = worth(now);
        for (int i = 0; i < now.dreams.size(); i++) {
            for (int j = i + 1; j < now.dreams.size(); j++) {
                State s = now.copy();
                Dream a = s.dreams.get(i), b = s.dreams.get(j);
                int was = a.room;
                a.room = b.room;
                b.room = was;
                if (a.room >= 0 && !fits(s, a, a.room) || b.room >= 0 && !fits(s, b, b.room)) continue;
                if (worth(s) > most) {
                    most = worth(s);
                    who = 10 * i + j;
                }
            }
        }
        return what == 0 ? who : most;
    }

    int putOut(int what) {
        if (not(what, 0, 1)) return -100000;
        int who = -1, most = worth(now);
        for (int i = 0; i < now.dreams.size(); i++) {
            State s = now.copy();
            s.dreams.get(i).room = -1;
            if (worth(s) > most) {
                most = worth(s);
                who = i;
            }
        }
        return what == 0 ? who : most;
    }

    int line(int what) {
        if (not(what, 0, 1)) return -100000;
        int wall = -1, most = worth(now);
        for (int i = 0; i < 10; i++) {
            State s = now.copy();
            s.lined |= 1 << i;
            if (worth(s) > most) {
                most = worth(s);
                wall = i;
            }
        }
        return what == 0 ? wall : most;
    }

    static int length(Object row) { return java.lang.reflect.Array.getLength(row); }

    static int item(Object row, int i) { return java.lang.reflect.Array.getInt(row, i); }

    int otherwise(State s, int dream, Object row) {
        for (int r = 0; r < 8; r++) if (pays(s, s.dreams.get(dream), r) != item(row, r)) return r;
        return -1;
    }

    int rents(int sheet, int dream, int what) {
        if (not(sheet, 0, 3) || noDream(dream) || not(what, 0, 7)) return -2;
        Object row = sheets[sheet];
        if (row == null) return -11;
        if (length(row) != 8) return -2;
        if (what == 0) return otherwise(now, dream, row);
        List<Integer> so = new ArrayList<>();
        int[] from = {0, 0, 0, 0, 0, 0, 1, 1};
        int[] to = {0, 5, 9, texts.size() - 1, 99, 99, 20, 20};
        for (int v = from[what]; v <= to[what]; v++) {
            State s = now.copy();
            Dream d = s.dreams.get(dream);
            if (what == 1) {
                Dream other = made(v);
                other.number = d.number;
                other.space = d.space;
                other.owe = d.owe;
                s.dreams.set(dream, other);
            }
            if (what == 2) d.number = v;
            if (what == 3) s.rule = v;
            if (what == 4 || what == 5) s.night = v;
            if (what == 6 || what == 7) d.space = v;
            if (otherwise(s, dream, row) == -1) so.add(v);
        }
        if (what == 4 || what == 6) return so.size();
        if (what == 5 || what == 7) return so.isEmpty() ? -1 : so.get(0);
        int bits = 0;
        for (int v : so) bits += 1 << v;
        return bits;
    }

    int film(int sheet, int dream) {
        if (not(sheet, 0, 3) || noDream(dream)) return -2;
        short[] row = new short[8];
        for (int r = 0; r < 8; r++) row[r] = (short) pays(now, now.dreams.get(dream), r);
        sheets[sheet] = row;
        return 8;
    }

    /** TAKEN, and who was put out. */
    int[] drawnRun(int seed) {
        State s = now.copy();
        int z = seed, outs = 0;
        for (Dream d : s.dreams) {
            z = (int) (z * 1103515245L + 12345L);
            d.purse = (z >>> 9) % 200;
        }
        for (int i = 0; i < 20; i++) outs += night(s).size();
        return new int[] {s.taken - now.taken, outs};
    }

    int drawn(int seed) { return drawnRun(seed)[0]; }

    long chance(int seed, int n, int part) {
        if (not(n, 1, 20) || not(part, 0, 1)) return -4611686018427387904L;
        int good = 0;
        for (int i = 0; i < n; i++) if (drawnRun(seed + i)[1] == 0) good++;
        int a = good, b = n;
        while (b != 0) {
            int t = a % b;
            a = b;
            b = t;
        }
        return part == 0 ? good / a : n / a;
    }

    int image() {
        image = now.copy();
        return now.dreams.size();
    }

    int back() {
        if (image == null) return -3;
        now = image.copy();
        return now.dreams.size();
    }

    int count(int what) {
        int in = 0;
        for (Dream d : now.dreams) if (d.room >= 0) in++;
        int[] all = {now.dreams.size(), in, now.night, now.taken, texts.size(), tape.length(), now.rule};
        return not(what, 0, 6) ? -2 : all[what];
    }

    int sheet(int sheet, int sort, int n) {
        if (not(sheet, 0, 3) || not(sort, -1, 2) || sort >= 0 && n > 40) return -2;
        if (sort >= 0 && n < 0) return -14;
        if (sort < 0) sheets[sheet] = null;
        if (sort == 0) sheets[sheet] = new byte[n];
        if (sort == 1) sheets[sheet] = new short[n];
        if (sort == 2) sheets[sheet] = new int[n];
        return 1;
    }

    int cell(int sheet, int i, int v) {
        if (not(sheet, 0, 3)) return -2;
        Object row = sheets[sheet];
        try {
            if (row instanceof byte[]) ((byte[]) row)[i] = (byte) v;
            else if (row instanceof short[]) ((short[]) row)[i] = (short) v;
            else ((int[]) row)[i] = v;
        } catch (NullPointerException e) {
            return -11;
        } catch (ArrayIndexOutOfBoundsException e) {
            return -12;
        }
        return 1;
    }

    int copy(int sheet, int i, int other, int j, int n) {
        if (not(sheet, 0, 3) || not(other, 0, 3)) return -2;
        try {
            System.arraycopy(sheets[sheet], i, sheets[other], j, n);
        } catch (NullPointerException e) {
            return -11;
        } catch (ArrayStoreException e) {
            return -13;
        } catch (IndexOutOfBoundsException e) {
            return -12;
        }
        return n;
    }

    int dreams(int sheet, int sort, int from, int n) {
        if (not(sheet, 0, 3) || not(sort, 0, 2) || not(n, 0, 5)) return -2;
        Object row = sheets[sheet];
        if (row == null) return -11;
        if (!(sort == 0 ? row instanceof byte[] : sort == 1 ? row instanceof short[] : row instanceof int[])) return -13;
        int came = 0;
        for (int i = 0; i < n; i++) {
            int at = from + 3 * i;
            try {
                if (dream(item(row, at), item(row, at + 1), item(row, at + 2)) >= 0) came++;
            } catch (IndexOutOfBoundsException e) {
                return -12;
            }
        }
        return came;
    }

    int taken(int dream, int k) {
        if (not(k, 0, 5)) return -2;
        if (noDream(dream)) return -11;
        Dream d = now.dreams.get(dream);
        return CLASSES[k].isInstance(d) ? d.number : -13;
    }
}
