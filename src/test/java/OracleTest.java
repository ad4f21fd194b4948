import java.util.ArrayList;
import java.util.HashMap;
import java.util.List;
import java.util.Map;
import java.util.NoSuchElementException;

/**
 * Compares Mostwell, call by call, with a naive house that tries every matching there is,
 * and on large houses with one that goes through the states of places. The calls come from a
 * fixed row of numbers, so each run of this test makes the same ones.
 */
public final class OracleTest {
    private static final String[] NAMES = {
        "addApplicant", "addPost", "setWeight", "setPlaces", "setRank", "rankOf", "type", "wipe", "tell",
        "textLength", "textAt", "assign", "release", "postOf", "freeOf", "keep", "take", "keptPost", "votes",
        "margin", "differ", "winner", "leadLength", "hasCycle", "worstMargin", "challenger", "isPopular",
        "hasPopular", "popularPost", "profile", "bestProfile", "bestPost", "isSure", "gains", "envies",
        "countEnvy", "matchedShare", "meanRank", "checksum", "isTrue"};

    private static long seed = 20261119L;
    private static int wrong = 0;
    private static int compared = 0;

    public static void main(String[] args) {
        for (int run = 0; run < 400; run++) {
            smallRun(run, 4, 4, true);
        }
        for (int run = 0; run < 400; run++) {
            smallRun(run, 3, 5, false);
        }
        for (int run = 0; run < 100; run++) {
            smallRun(run, 10, 2, true);
        }
        int found = 0;
        int missing = 0;
        for (int run = 0; run < 500; run++) {
            if (popularRun(run)) {
                found++;
            } else {
                missing++;
            }
        }
        for (int run = 0; run < 60; run++) {
            largeRun(run);
        }
        if (found < 30 || missing < 30) {
            report("too few houses with or without a popular matching: " + found + ", " + missing);
        }
        System.out.println(compared + " answers compared, " + wrong + " wrong; popular ones: " + found
            + " found, " + missing + " missing");
        if (wrong != 0) {
            System.exit(1);
        }
    }

    private static int next(int bound) {
        seed = seed * 6364136223846793005L + 1442695040888963407L;
        return (int) ((seed >>> 33) % bound);
    }

    private static void report(String what) {
        wrong++;
        if (wrong <= 20) {
            System.out.println(what);
        }
    }

    private static void check(String where, Object got, Object due) {
        compared++;
        if (!got.equals(due)) {
            report(where + " answered " + got + ", due is " + due);
        }
    }

    // ---- runs of mixed calls on small houses

    private static void smallRun(int run, int mostApplicants, int mostPosts, boolean likeWeights) {
        Mostwell x = new Mostwell();
        Naive y = new Naive();
        StringBuilder told = new StringBuilder();
        int ranks = 2 + next(3);
        for (int call = 0; call < 200; call++) {
            String name = NAMES[next(NAMES.length)];
            if (next(5) == 0) {
                name = "assign";
            } else if (next(6) == 0) {
                name = "setRank";
            } else if (next(4) == 0) {
                name = "type";
            }
            if (name.equals("addApplicant") && y.n >= mostApplicants
                    || name.equals("addPost") && y.m >= mostPosts) {
                continue;
            }
            int[] a = arguments(name, y, ranks, likeWeights);
            told.append(name).append('(').append(a[0]).append(", ").append(a[1]).append(", ").append(a[2]).append(") ");
            Object due = answer(name, a, y);
            Object got = answer(name, a, x);
            compared++;
            if (!got.equals(due)) {
                report("run " + run + ": " + told + "answered " + got + ", due is " + due);
                return;
            }
            if (name.equals("tell") || name.equals("setRank") || name.equals("take")) {
                check("run " + run + ": " + told + "then checksum()", x.checksum(), y.checksum());
            }
        }
        check("run " + run + ": " + told + "at last isTrue()", x.isTrue(), true);
    }

    private static int[] arguments(String name, Naive y, int ranks, boolean likeWeights) {
        int a = next(12) == 0 ? next(14) - 2 : next(Math.max(1, y.n));
        int p = next(12) == 0 ? next(14) - 2 : next(Math.max(1, y.m));
        int k = next(10) == 0 ? next(14) - 2 : next(Math.max(1, y.kept.size()));
        int l = next(10) == 0 ? next(14) - 2 : next(Math.max(1, y.kept.size()));
        switch (name) {
            case "addApplicant": return new int[] {weight(likeWeights), 0, 0};
            case "addPost": return new int[] {next(8) == 0 ? next(8) - 1 : 1 + next(2), 0, 0};
            case "setWeight": return new int[] {a, weight(likeWeights), 0};
            case "setPlaces": return new int[] {p, next(8) == 0 ? next(8) - 1 : 1 + next(2), 0};
            case "setRank": return new int[] {a, p, next(10) == 0 ? next(14) - 2 : next(ranks + 1)};
            case "type": return new int[] {sign(y), 0, 0};
            case "textAt": return new int[] {a, next(9) - 1, 0};
            case "take": return new int[] {k, 0, 0};
            case "keptPost": return new int[] {k, a, 0};
            case "votes": case "margin": case "differ": case "leadLength": return new int[] {k, l, 0};
            case "profile": case "bestProfile": return new int[] {next(8) == 0 ? next(14) - 2 : 1 + next(ranks), 0, 0};
            case "envies": return new int[] {a, next(12) == 0 ? next(14) - 2 : next(Math.max(1, y.n)), 0};
            case "freeOf": return new int[] {p, 0, 0};
            default: return new int[] {a, p, 0};
        }
    }

    private static int weight(boolean like) {
        return next(15) == 0 ? next(13) - 1 : like ? 3 : 1 + next(4);
    }

    private static int sign(Naive y) {
        if (next(20) == 0) {
            return next(300);
        }
        boolean letter = y.typed.length() % 2 == 0;
        if (next(12) == 0) {
            letter = !letter;
        }
        return letter ? 'a' + next(Math.max(1, y.m)) : next(2) == 0 ? '=' : '>';
    }

    private static Object answer(String name, int[] a, Mostwell x) {
        try {
            switch (name) {
                case "addApplicant": return x.addApplicant(a[0]);
                case "addPost": return x.addPost(a[0]);
                case "setWeight": return x.setWeight(a[0], a[1]);
                case "setPlaces": return x.setPlaces(a[0], a[1]);
                case "setRank": return x.setRank(a[0], a[1], a[2]);
                case "rankOf": return x.rankOf(a[0], a[1]);
                case "type": return x.type((char) a[0]);
                case "wipe": return x.wipe();
                case "tell": return x.tell(a[0]);
                case "textLength": return x.textLength(a[0]);
                case "textAt": return x.textAt(a[0], a[1]);
                case "assign": return x.assign(a[0], a[1]);
                case "release": return x.release(a[0]);
                case "postOf": return x.postOf(a[0]);
                case "freeOf": return x.freeOf(a[0]);
                case "keep": return x.keep();
                case "take": return x.take(a[0]);
                case "keptPost": return x.keptPost(a[0], a[1]);
                case "votes": return x.votes(a[0], a[1]);
                case "margin": return x.margin(a[0], a[1]);
                case "differ": return x.differ(a[0], a[1]);
                case "winner": return x.winner();
                case "leadLength": return x.leadLength(a[0], a[1]);
                case "hasCycle": return x.hasCycle();
                case "worstMargin": return x.worstMargin();
                case "challenger": return x.challenger(a[0]);
                case "isPopular": return x.isPopular();
                case "hasPopular": return x.hasPopular();
                case "popularPost": return x.popularPost(a[0]);
                case "profile": return x.profile(a[0]);
                case "bestProfile": return x.bestProfile(a[0]);
                case "bestPost": return x.bestPost(a[0]);
                case "isSure": return x.isSure(a[0]);
                case "gains": return x.gains(a[0], a[1]);
                case "envies": return x.envies(a[0], a[1]);
                case "countEnvy": return x.countEnvy();
                case "matchedShare": return x.matchedShare();
                case "meanRank": return x.meanRank();
                case "checksum": return x.checksum();
                default: return x.isTrue();
            }
        } catch (RuntimeException e) {
            return e.getClass().getName();
        }
    }

    private static Object answer(String name, int[] a, Naive y) {
        try {
            switch (name) {
                case "addApplicant": return y.addApplicant(a[0]);
                case "addPost": return y.addPost(a[0]);
                case "setWeight": return y.setWeight(a[0], a[1]);
                case "setPlaces": return y.setPlaces(a[0], a[1]);
                case "setRank": return y.setRank(a[0], a[1], a[2]);
                case "rankOf": return y.rankOf(a[0], a[1]);
                case "type": return y.type((char) a[0]);
                case "wipe": return y.wipe();
                case "tell": return y.tell(a[0]);
                case "textLength": return y.textOf(a[0]).length();
                case "textAt": return y.textAt(a[0], a[1]);
                case "assign": return y.assign(a[0], a[1]);
                case "release": return y.release(a[0]);
                case "postOf": return y.postOf(a[0]);
                case "freeOf": return y.freeOf(a[0]);
                case "keep": return y.keep();
                case "take": return y.take(a[0]);
                case "keptPost": return y.keptPost(a[0], a[1]);
                case "votes": return y.votes(y.matching(a[0]), y.matching(a[1]));
                case "margin": return y.margin(y.matching(a[0]), y.matching(a[1]));
                case "differ": return y.differ(y.matching(a[0]), y.matching(a[1]));
                case "winner": return y.winner();
                case "leadLength": return y.leadLength(a[0], a[1]);
                case "hasCycle": return y.hasCycle();
                case "worstMargin": return y.worstMargin(y.hand);
                case "challenger": return y.challenger(a[0]);
                case "isPopular": return y.worstMargin(y.hand) == 0;
                case "hasPopular": return y.popular() != null;
                case "popularPost": return y.popularPost(a[0]);
                case "profile": return y.profileAt(a[0], y.hand);
                case "bestProfile": return y.profileAt(a[0], y.best(y.rank));
                case "bestPost": return y.bestPost(a[0]);
                case "isSure": return y.isSure(a[0]);
                case "gains": return y.gains(a[0], a[1]);
                case "envies": return y.envies(a[0], a[1]);
                case "countEnvy": return y.countEnvy();
                case "matchedShare": return y.matchedShare();
                case "meanRank": return y.meanRank();
                case "checksum": return y.checksum();
                default: return true;
            }
        } catch (RuntimeException e) {
            return e.getClass().getName();
        }
    }

    // ---- first popular matchings of houses that are a little larger

    private static boolean popularRun(int run) {
        Mostwell x = new Mostwell();
        int n = 4 + next(3);
        int m = 3 + next(3);
        int ranks = 1 + next(4);
        int[] places = new int[m];
        int[] common = new int[m];
        int[][] rank = new int[n][m];
        for (int p = 0; p < m; p++) {
            places[p] = 1 + next(run % 3 == 0 ? 2 : 1);
            common[p] = 1 + next(5);
            x.addPost(places[p]);
        }
        for (int a = 0; a < n; a++) {
            x.addApplicant(4);
            for (int p = 0; p < m; p++) {
                // like lists are what leaves a house without a popular matching
                boolean likeOthers = run % 4 != 0 && next(6) != 0;
                rank[a][p] = likeOthers ? common[p] : next(3) == 0 ? 0 : 1 + next(ranks);
                x.setRank(a, p, rank[a][p]);
            }
        }
        int[] due = firstPopular(n, m, places, rank);
        check("popular run " + run + ": hasPopular()", x.hasPopular(), due != null);
        for (int a = 0; a < n; a++) {
            Object got = answer("popularPost", new int[] {a, 0, 0}, x);
            check("popular run " + run + ": popularPost(" + a + ")", got,
                due == null ? NoSuchElementException.class.getName() : (Object) due[a]);
        }
        check("popular run " + run + ": isTrue()", x.isTrue(), true);
        return due != null;
    }

    private static int[] firstPopular(int n, int m, int[] places, int[][] rank) {
        int[] row = new int[n];
        return firstPopular(0, row, new int[m], places, rank) ? row : null;
    }

    private static boolean firstPopular(int a, int[] row, int[] used, int[] places, int[][] rank) {
        int m = places.length;
        if (a == row.length) {
            States s = new States(places, margins(row, rank, null));
            return s.best() == 0;
        }
        for (int p = 0; p <= m; p++) {
            if (p < m && (rank[a][p] == 0 || used[p] == places[p])) {
                continue;
            }
            row[a] = p < m ? p : -1;
            if (p < m) {
                used[p]++;
            }
            boolean found = firstPopular(a + 1, row, used, places, rank);
            if (p < m) {
                used[p]--;
            }
            if (found) {
                return true;
            }
        }
        return false;
    }

    private static long[][] margins(int[] row, int[][] rank, int[] weights) {
        int n = row.length;
        long[][] worth = new long[n][];
        for (int a = 0; a < n; a++) {
            int m = rank[a].length;
            worth[a] = new long[m + 1];
            int has = row[a] < 0 || rank[a][row[a]] == 0 ? 99 : rank[a][row[a]];
            for (int p = 0; p <= m; p++) {
                int would = p == m ? 99 : rank[a][p];
                worth[a][p] = would == 0 ? Long.MIN_VALUE
                    : (long) Integer.signum(has - would) * (weights == null ? 1 : weights[a]);
            }
        }
        return worth;
    }

    // ---- challengers and best matchings of large houses

    private static void largeRun(int run) {
        Mostwell x = new Mostwell();
        int n = 10;
        int m = 10 - run % 4;
        int[] places = new int[m];
        int[] weights = new int[n];
        int[][] rank = new int[n][m];
        int ranks = 1 + next(9);
        int share = 2 + next(4);
        for (int p = 0; p < m; p++) {
            places[p] = next(4) == 0 ? 1 + next(4) : 1;
            x.addPost(places[p]);
        }
        for (int a = 0; a < n; a++) {
            weights[a] = 1 + next(9);
            x.addApplicant(weights[a]);
            for (int p = 0; p < m; p++) {
                rank[a][p] = next(share) == 0 ? 0 : 1 + next(ranks);
                x.setRank(a, p, rank[a][p]);
            }
        }
        int[] row = new int[n];
        for (int a = 0; a < n; a++) {
            answer("assign", new int[] {a, next(m), 0}, x);
            row[a] = x.postOf(a);
        }
        States s = new States(places, margins(row, rank, weights));
        check("large run " + run + ": worstMargin()", x.worstMargin(), (int) s.best());
        int[] due = s.first();
        for (int a = 0; a < n; a++) {
            check("large run " + run + ": challenger(" + a + ")", x.challenger(a), due[a]);
        }
        checkBest(run, x, places, rank);
        check("large run " + run + ": isTrue()", x.isTrue(), true);
        checkPopularOfAlike(run, x, places, rank);
    }

    private static void checkBest(int run, Mostwell x, int[] places, int[][] rank) {
        States s = new States(places, profiles(rank));
        int[] due = s.first();
        int n = rank.length;
        int[] profile = new int[10];
        for (int a = 0; a < n; a++) {
            check("large run " + run + ": bestPost(" + a + ")", x.bestPost(a), due[a]);
            if (due[a] >= 0) {
                profile[rank[a][due[a]]]++;
            }
            long[][] without = profiles(rank);
            for (int p = 0; p < places.length; p++) {
                without[a][p] = Long.MIN_VALUE;
            }
            check("large run " + run + ": isSure(" + a + ")", x.isSure(a),
                new States(places, without).best() != s.best());
            int post = next(places.length);
            int[][] alone = new int[n][];
            for (int b = 0; b < n; b++) {
                alone[b] = b == a ? new int[places.length] : rank[b];
            }
            alone[a][post] = 1;
            int now = due[a] < 0 ? 99 : rank[a][due[a]];
            check("large run " + run + ": gains(" + a + ", " + post + ")", x.gains(a, post),
                rank[a][post] > 0 && rank[a][post] < now
                    && new States(places, profiles(alone)).first()[a] == post);
        }
        for (int r = 1; r <= 9; r++) {
            check("large run " + run + ": bestProfile(" + r + ")", x.bestProfile(r), profile[r]);
        }
    }

    /** A first popular matching must be beaten by none, and one found by hand must be told. */
    private static void checkPopularOfAlike(int run, Mostwell x, int[] places, int[][] rank) {
        int n = rank.length;
        for (int a = 0; a < n; a++) {
            x.setWeight(a, 1);
        }
        if (x.isPopular()) {
            check("large run " + run + ": hasPopular()", x.hasPopular(), true);
        }
        if (x.hasPopular()) {
            int[] row = new int[n];
            for (int a = 0; a < n; a++) {
                row[a] = x.popularPost(a);
            }
            check("large run " + run + ": margin against the first popular one",
                new States(places, margins(row, rank, null)).best(), 0L);
        }
    }

    private static long[][] profiles(int[][] rank) {
        long[][] worth = new long[rank.length][];
        for (int a = 0; a < rank.length; a++) {
            int m = rank[a].length;
            worth[a] = new long[m + 1];
            for (int p = 0; p < m; p++) {
                long w = 1L;
                for (int r = rank[a][p]; r < 9; r++) {
                    w *= 64L;
                }
                worth[a][p] = rank[a][p] == 0 ? Long.MIN_VALUE : w;
            }
        }
        return worth;
    }

    /** The greatest sum of worths, from what is left for applicants a and later in a state of used places. */
    private static final class States {
        final int[] places;
        final long[][] worth;
        final List<Map<Long, Long>> known = new ArrayList<>();

        States(int[] places, long[][] worth) {
            this.places = places;
            this.worth = worth;
            for (int a = 0; a <= worth.length; a++) {
                known.add(new HashMap<>());
            }
        }

        long best() {
            return best(0, 0L);
        }

        private long best(int a, long used) {
            if (a == worth.length) {
                return 0L;
            }
            Long before = known.get(a).get(used);
            if (before != null) {
                return before;
            }
            long best = Long.MIN_VALUE;
            for (int p = 0; p <= places.length; p++) {
                if (open(a, p, used)) {
                    best = Math.max(best, worth[a][p] + best(a + 1, after(p, used)));
                }
            }
            known.get(a).put(used, best);
            return best;
        }

        private boolean open(int a, int p, long used) {
            return worth[a][p] != Long.MIN_VALUE && (p == places.length || (used >> (3 * p) & 7L) < places[p]);
        }

        private long after(int p, long used) {
            return p == places.length ? used : used + (1L << (3 * p));
        }

        /** Of all with the greatest sum the first by order: each in turn has the first post that keeps it. */
        int[] first() {
            int[] row = new int[worth.length];
            long used = 0L;
            for (int a = 0; a < worth.length; a++) {
                for (int p = 0; p <= places.length; p++) {
                    if (open(a, p, used) && worth[a][p] + best(a + 1, after(p, used)) == best(a, used)) {
                        row[a] = p == places.length ? -1 : p;
                        used = after(p, used);
                        break;
                    }
                }
            }
            return row;
        }
    }

    /** The document's words, done by trying every matching. */
    private static final class Naive {
        int n = 0;
        int m = 0;
        final int[] weight = new int[10];
        final int[] places = new int[10];
        int[][] rank = new int[10][10];
        String typed = "";
        int[] hand = {-1, -1, -1, -1, -1, -1, -1, -1, -1, -1};
        final List<int[]> kept = new ArrayList<>();

        void applicant(int a) {
            if (a < 0 || a >= n) {
                throw new IndexOutOfBoundsException();
            }
        }

        void post(int p) {
            if (p < 0 || p >= m) {
                throw new IndexOutOfBoundsException();
            }
        }

        void number(int v, int low, int high) {
            if (v < low || v > high) {
                throw new IllegalArgumentException();
            }
        }

        int[] keptOne(int k) {
            if (k < 0 || k >= kept.size()) {
                throw new IndexOutOfBoundsException();
            }
            return kept.get(k);
        }

        int[] matching(int k) {
            return k == -1 ? hand : keptOne(k);
        }

        int addApplicant(int w) {
            number(w, 1, 9);
            if (n == 10) {
                throw new IllegalStateException();
            }
            weight[n] = w;
            return n++;
        }

        int addPost(int c) {
            number(c, 1, 4);
            if (m == 10) {
                throw new IllegalStateException();
            }
            places[m] = c;
            return m++;
        }

        int setWeight(int a, int w) {
            applicant(a);
            number(w, 1, 9);
            int before = weight[a];
            weight[a] = w;
            return before;
        }

        int setPlaces(int p, int c) {
            post(p);
            number(c, 1, 4);
            if (holders(p) > c) {
                throw new UnsupportedOperationException();
            }
            int before = places[p];
            places[p] = c;
            return before;
        }

        int holders(int p) {
            int c = 0;
            for (int a = 0; a < n; a++) {
                c += hand[a] == p ? 1 : 0;
            }
            return c;
        }

        int setRank(int a, int p, int r) {
            applicant(a);
            post(p);
            number(r, 0, 9);
            int before = rank[a][p];
            rank[a][p] = r;
            drop(a);
            return before;
        }

        void drop(int a) {
            if (hand[a] >= 0 && rank[a][hand[a]] == 0) {
                hand[a] = -1;
            }
        }

        int rankOf(int a, int p) {
            applicant(a);
            post(p);
            return rank[a][p];
        }

        int type(char c) {
            if ("abcdefghij>=".indexOf(c) < 0) {
                throw new IllegalArgumentException();
            }
            if (typed.length() == 20) {
                throw new IllegalStateException();
            }
            typed += c;
            return typed.length();
        }

        int wipe() {
            int l = typed.length();
            typed = "";
            return l;
        }

        int tell(int a) {
            applicant(a);
            if (!typed.matches("[a-j]([>=][a-j])*") || typed.chars().filter(c -> c == '>').count() > 8) {
                throw new UnsupportedOperationException();
            }
            int[] list = new int[10];
            int told = 0;
            String[] classes = typed.split(">");
            for (int r = 0; r < classes.length; r++) {
                for (String letter : classes[r].split("=")) {
                    int p = letter.charAt(0) - 'a';
                    if (p >= m || list[p] != 0) {
                        throw new UnsupportedOperationException();
                    }
                    list[p] = r + 1;
                    told++;
                }
            }
            typed = "";
            rank[a] = list;
            drop(a);
            return told;
        }

        String textOf(int a) {
            applicant(a);
            List<String> classes = new ArrayList<>();
            for (int r = 1; r <= 9; r++) {
                List<String> like = new ArrayList<>();
                for (int p = 0; p < m; p++) {
                    if (rank[a][p] == r) {
                        like.add(String.valueOf((char) ('a' + p)));
                    }
                }
                if (!like.isEmpty()) {
                    classes.add(String.join("=", like));
                }
            }
            return String.join(">", classes);
        }

        char textAt(int a, int i) {
            String text = textOf(a);
            if (i < 0 || i >= text.length()) {
                throw new NoSuchElementException();
            }
            return text.charAt(i);
        }

        int assign(int a, int p) {
            applicant(a);
            post(p);
            if (hand[a] == p || rank[a][p] == 0 || holders(p) == places[p]) {
                throw new UnsupportedOperationException();
            }
            int before = hand[a];
            hand[a] = p;
            return before;
        }

        int release(int a) {
            applicant(a);
            if (hand[a] < 0) {
                throw new NoSuchElementException();
            }
            int before = hand[a];
            hand[a] = -1;
            return before;
        }

        int postOf(int a) {
            applicant(a);
            return hand[a];
        }

        int freeOf(int p) {
            post(p);
            return places[p] - holders(p);
        }

        int keep() {
            if (kept.size() == 10) {
                throw new IllegalStateException();
            }
            kept.add(hand.clone());
            return kept.size() - 1;
        }

        int take(int k) {
            int[] row = keptOne(k);
            int matched = 0;
            int[] used = new int[10];
            for (int a = 0; a < n; a++) {
                if (row[a] >= 0) {
                    if (rank[a][row[a]] == 0 || ++used[row[a]] > places[row[a]]) {
                        throw new UnsupportedOperationException();
                    }
                    matched++;
                }
            }
            hand = row.clone();
            return matched;
        }

        int keptPost(int k, int a) {
            int[] row = keptOne(k);
            applicant(a);
            return row[a];
        }

        int worse(int[][] lists, int a, int p) {
            return p < 0 || lists[a][p] == 0 ? 99 : lists[a][p];
        }

        int votes(int[] x, int[] y) {
            int sum = 0;
            for (int a = 0; a < n; a++) {
                sum += worse(rank, a, x[a]) < worse(rank, a, y[a]) ? weight[a] : 0;
            }
            return sum;
        }

        int margin(int[] x, int[] y) {
            return votes(x, y) - votes(y, x);
        }

        int differ(int[] x, int[] y) {
            int c = 0;
            for (int a = 0; a < n; a++) {
                c += x[a] != y[a] ? 1 : 0;
            }
            return c;
        }

        boolean beats(int k, int l) {
            return margin(kept.get(k), kept.get(l)) > 0;
        }

        int winner() {
            for (int k = 0; k < kept.size(); k++) {
                boolean beaten = false;
                for (int l = 0; l < kept.size(); l++) {
                    beaten |= beats(l, k);
                }
                if (!beaten) {
                    return k;
                }
            }
            throw new NoSuchElementException();
        }

        int leadLength(int k, int l) {
            keptOne(k);
            keptOne(l);
            int c = kept.size();
            int[][] length = new int[c][c];
            for (int i = 0; i < c; i++) {
                for (int j = 0; j < c; j++) {
                    length[i][j] = beats(j, i) ? 1 : 9999;
                }
            }
            for (int via = 0; via < c; via++) {
                for (int i = 0; i < c; i++) {
                    for (int j = 0; j < c; j++) {
                        length[i][j] = Math.min(length[i][j], length[i][via] + length[via][j]);
                    }
                }
            }
            if (length[k][l] >= 9999) {
                throw new NoSuchElementException();
            }
            return length[k][l];
        }

        boolean hasCycle() {
            for (int k = 0; k < kept.size(); k++) {
                try {
                    leadLength(k, k);
                    return true;
                } catch (NoSuchElementException e) {
                    continue;
                }
            }
            return false;
        }

        List<int[]> all(int[][] lists) {
            List<int[]> rows = new ArrayList<>();
            all(lists, 0, new int[] {-1, -1, -1, -1, -1, -1, -1, -1, -1, -1}, new int[10], rows);
            return rows;
        }

        void all(int[][] lists, int a, int[] row, int[] used, List<int[]> rows) {
            if (a == n) {
                rows.add(row.clone());
                return;
            }
            for (int p = 0; p < m; p++) {
                if (lists[a][p] > 0 && used[p] < places[p]) {
                    row[a] = p;
                    used[p]++;
                    all(lists, a + 1, row, used, rows);
                    used[p]--;
                }
            }
            row[a] = -1;
            all(lists, a + 1, row, used, rows);
        }

        int worstMargin(int[] against) {
            int worst = 0;
            for (int[] row : all(rank)) {
                worst = Math.max(worst, margin(row, against));
            }
            return worst;
        }

        int challenger(int a) {
            applicant(a);
            int worst = worstMargin(hand);
            for (int[] row : all(rank)) {
                if (margin(row, hand) == worst) {
                    return row[a];
                }
            }
            throw new AssertionError();
        }

        int[] popular() {
            for (int a = 0; a < n; a++) {
                if (weight[a] != weight[0]) {
                    throw new UnsupportedOperationException();
                }
            }
            List<int[]> rows = all(rank);
            for (int[] row : rows) {
                boolean beaten = false;
                for (int[] other : rows) {
                    if (margin(other, row) > 0) {
                        beaten = true;
                        break;
                    }
                }
                if (!beaten) {
                    return row;
                }
            }
            return null;
        }

        int popularPost(int a) {
            applicant(a);
            int[] row = popular();
            if (row == null) {
                throw new NoSuchElementException();
            }
            return row[a];
        }

        int[] profile(int[][] lists, int[] row) {
            int[] counts = new int[10];
            for (int a = 0; a < n; a++) {
                if (row[a] >= 0) {
                    counts[lists[a][row[a]]]++;
                }
            }
            return counts;
        }

        int profileAt(int r, int[] row) {
            number(r, 1, 9);
            return profile(rank, row)[r];
        }

        int compare(int[] x, int[] y) {
            for (int r = 1; r <= 9; r++) {
                if (x[r] != y[r]) {
                    return x[r] - y[r];
                }
            }
            return 0;
        }

        int[] best(int[][] lists) {
            int[] best = null;
            for (int[] row : all(lists)) {
                if (best == null || compare(profile(lists, row), profile(lists, best)) > 0) {
                    best = row;
                }
            }
            return best;
        }

        int bestPost(int a) {
            applicant(a);
            return best(rank)[a];
        }

        boolean isSure(int a) {
            applicant(a);
            int[] best = best(rank);
            for (int[] row : all(rank)) {
                if (row[a] < 0 && compare(profile(rank, row), profile(rank, best)) == 0) {
                    return false;
                }
            }
            return true;
        }

        boolean gains(int a, int p) {
            applicant(a);
            post(p);
            int now = worse(rank, a, best(rank)[a]);
            int[][] told = rank.clone();
            told[a] = new int[10];
            told[a][p] = 1;
            return best(told)[a] == p && worse(rank, a, p) < now;
        }

        boolean envies(int a, int b) {
            applicant(a);
            applicant(b);
            return worse(rank, a, hand[b]) < worse(rank, a, hand[a]);
        }

        int countEnvy() {
            int c = 0;
            for (int a = 0; a < n; a++) {
                for (int b = 0; b < n; b++) {
                    c += envies(a, b) ? 1 : 0;
                }
            }
            return c;
        }

        float matchedShare() {
            if (n == 0) {
                throw new ArithmeticException();
            }
            int c = 0;
            for (int a = 0; a < n; a++) {
                c += hand[a] >= 0 ? 1 : 0;
            }
            return (float) c / (float) n;
        }

        double meanRank() {
            int c = 0;
            int sum = 0;
            for (int a = 0; a < n; a++) {
                c += hand[a] >= 0 ? 1 : 0;
                sum += hand[a] >= 0 ? rank[a][hand[a]] : 0;
            }
            if (c == 0) {
                throw new ArithmeticException();
            }
            return (double) sum / (double) c;
        }

        long checksum() {
            List<Integer> parts = new ArrayList<>();
            for (int a = 0; a < n; a++) {
                parts.add(weight[a]);
                for (int p = 0; p < m; p++) {
                    parts.add(rank[a][p]);
                }
                parts.add(hand[a]);
            }
            for (int p = 0; p < m; p++) {
                parts.add(places[p]);
            }
            for (int[] row : kept) {
                for (int a = 0; a < n; a++) {
                    parts.add(row[a]);
                }
            }
            long sum = 7L;
            for (int part : parts) {
                sum = sum * 31L + part;
            }
            return sum;
        }
    }
}
