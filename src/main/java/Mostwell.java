import java.util.Arrays;
import java.util.NoSuchElementException;

/** Who gets which post when most must not be unhappier. */
public final class Mostwell {
    private static final int LIMIT = 10;
    private static final int TOP_WEIGHT = 9;
    private static final int TOP_PLACES = 4;
    private static final int LAST_RANK = 9;
    private static final int BEHIND_ALL_RANKS = 10;
    private static final int NO_POST = -1;
    private static final int IN_HAND = -1;

    /**
     * 11 to the powers 9 to 0. At most ten applicants are counted in one digit, and a post
     * or none is one of eleven things, so a number to the base 11 holds a profile or an order.
     */
    private static final long[] ELEVENS = {
        2357947691L, 214358881L, 19487171L, 1771561L, 161051L, 14641L, 1331L, 121L, 11L, 1L};

    private final House house = new House();
    private final Typing typing = new Typing();
    private final Finder finder = new Finder();
    private final Agenda agenda = new Agenda();
    private final int[] hand = new int[LIMIT];
    private final int[][] kept = new int[LIMIT][LIMIT];
    private int keptCount = 0;

    public Mostwell() {
        Arrays.fill(hand, NO_POST);
        for (int k = 0; k < LIMIT; k++) {
            Arrays.fill(kept[k], NO_POST);
        }
    }

    public int addApplicant(int weight) throws IllegalArgumentException, IllegalStateException {
        requireNumber(weight, 1, TOP_WEIGHT);
        if (house.applicants >= LIMIT) {
            throw new IllegalStateException("no more applicants");
        }
        int applicant = house.applicants;
        house.weights[applicant] = weight;
        house.applicants = applicant + 1;
        return applicant;
    }

    public int addPost(int places) throws IllegalArgumentException, IllegalStateException {
        requireNumber(places, 1, TOP_PLACES);
        if (house.posts >= LIMIT) {
            throw new IllegalStateException("no more posts");
        }
        int post = house.posts;
        house.places[post] = places;
        house.posts = post + 1;
        return post;
    }

    public int setWeight(int applicant, int weight)
            throws IndexOutOfBoundsException, IllegalArgumentException {
        requireApplicant(applicant);
        requireNumber(weight, 1, TOP_WEIGHT);
        int before = house.weights[applicant];
        house.weights[applicant] = weight;
        return before;
    }

    public int setPlaces(int post, int places)
            throws IndexOutOfBoundsException, IllegalArgumentException, UnsupportedOperationException {
        requirePost(post);
        requireNumber(places, 1, TOP_PLACES);
        if (house.takersOf(post, hand) > places) {
            throw new UnsupportedOperationException("more have it in hand");
        }
        int before = house.places[post];
        house.places[post] = places;
        return before;
    }

    public int setRank(int applicant, int post, int rank)
            throws IndexOutOfBoundsException, IllegalArgumentException {
        requireApplicant(applicant);
        requirePost(post);
        requireNumber(rank, 0, LAST_RANK);
        int before = house.ranks[applicant][post];
        house.ranks[applicant][post] = rank;
        dropUnlisted(applicant);
        return before;
    }

    public int rankOf(int applicant, int post) throws IndexOutOfBoundsException {
        requireApplicant(applicant);
        requirePost(post);
        return house.ranks[applicant][post];
    }

    public int type(char sign) throws IllegalArgumentException, IllegalStateException {
        if (!Typing.knows(sign)) {
            throw new IllegalArgumentException("no sign of a list");
        }
        if (typing.isFull()) {
            throw new IllegalStateException("no more signs");
        }
        return typing.append(sign);
    }

    public int wipe() {
        int before = typing.length;
        typing.length = 0;
        return before;
    }

    public int tell(int applicant) throws IndexOutOfBoundsException, UnsupportedOperationException {
        requireApplicant(applicant);
        int told = typing.read(house.posts);
        if (told == 0) {
            throw new UnsupportedOperationException("no list");
        }
        for (int post = 0; post < house.posts; post++) {
            house.ranks[applicant][post] = typing.ranks[post];
        }
        typing.length = 0;
        dropUnlisted(applicant);
        return told;
    }

    public int textLength(int applicant) throws IndexOutOfBoundsException {
        requireApplicant(applicant);
        return house.writeText(applicant);
    }

    public char textAt(int applicant, int index)
            throws IndexOutOfBoundsException, NoSuchElementException {
        requireApplicant(applicant);
        if (index < 0 || index >= house.writeText(applicant)) {
            throw new NoSuchElementException("no such sign");
        }
        return house.text[index];
    }

    public int assign(int applicant, int post)
            throws IndexOutOfBoundsException, UnsupportedOperationException {
        requireApplicant(applicant);
        requirePost(post);
        int before = hand[applicant];
        if (before == post || !house.lists(applicant, post) || freePlaces(post) <= 0) {
            throw new UnsupportedOperationException("the post can't be given");
        }
        hand[applicant] = post;
        return before;
    }

    public int release(int applicant) throws IndexOutOfBoundsException, NoSuchElementException {
        requireApplicant(applicant);
        int before = hand[applicant];
        if (before == NO_POST) {
            throw new NoSuchElementException("no post in hand");
        }
        hand[applicant] = NO_POST;
        return before;
    }

    public int postOf(int applicant) throws IndexOutOfBoundsException {
        requireApplicant(applicant);
        return hand[applicant];
    }

    public int freeOf(int post) throws IndexOutOfBoundsException {
        requirePost(post);
        return freePlaces(post);
    }

    public int keep() throws IllegalStateException {
        if (keptCount >= LIMIT) {
            throw new IllegalStateException("no more kept ones");
        }
        int matching = keptCount;
        System.arraycopy(hand, 0, kept[matching], 0, LIMIT);
        keptCount = matching + 1;
        return matching;
    }

    public int take(int matching) throws IndexOutOfBoundsException, UnsupportedOperationException {
        requireKept(matching);
        if (!house.allows(kept[matching])) {
            throw new UnsupportedOperationException("no matching by now");
        }
        System.arraycopy(kept[matching], 0, hand, 0, LIMIT);
        return countMatched();
    }

    public int keptPost(int matching, int applicant) throws IndexOutOfBoundsException {
        requireKept(matching);
        requireApplicant(applicant);
        return kept[matching][applicant];
    }

    public int votes(int matching, int other) throws IndexOutOfBoundsException {
        requireMatching(matching);
        requireMatching(other);
        return house.weightFor(rowOf(matching), rowOf(other));
    }

    public int margin(int matching, int other) throws IndexOutOfBoundsException {
        requireMatching(matching);
        requireMatching(other);
        return house.leadOf(rowOf(matching), rowOf(other));
    }

    public int differ(int matching, int other) throws IndexOutOfBoundsException {
        requireMatching(matching);
        requireMatching(other);
        int[] row = rowOf(matching);
        int[] otherRow = rowOf(other);
        int unlike = 0;
        for (int a = 0; a < house.applicants; a++) {
            if (row[a] != otherRow[a]) {
                unlike++;
            }
        }
        return unlike;
    }

    public int winner() throws NoSuchElementException {
        agenda.compare(house, kept, keptCount);
        int unbeaten = agenda.firstUnbeaten();
        if (unbeaten < 0) {
            throw new NoSuchElementException("no winner");
        }
        return unbeaten;
    }

    public int leadLength(int matching, int other)
            throws IndexOutOfBoundsException, NoSuchElementException {
        requireKept(matching);
        requireKept(other);
        agenda.compare(house, kept, keptCount);
        int length = agenda.shortestRow(matching, other);
        if (length == 0) {
            throw new NoSuchElementException("it does not lead there");
        }
        return length;
    }

    public boolean hasCycle() {
        agenda.compare(house, kept, keptCount);
        for (int k = 0; k < keptCount; k++) {
            if (agenda.shortestRow(k, k) > 0) {
                return true;
            }
        }
        return false;
    }

    public int worstMargin() {
        return finder.findChallenger(house, hand);
    }

    public int challenger(int applicant) throws IndexOutOfBoundsException {
        requireApplicant(applicant);
        finder.findChallenger(house, hand);
        return finder.challengerRow[applicant];
    }

    public boolean isPopular() {
        return finder.findChallenger(house, hand) == 0;
    }

    public boolean hasPopular() throws UnsupportedOperationException {
        requireLikeWeights();
        return finder.findPopular(house);
    }

    public int popularPost(int applicant)
            throws IndexOutOfBoundsException, UnsupportedOperationException, NoSuchElementException {
        requireApplicant(applicant);
        requireLikeWeights();
        if (!finder.findPopular(house)) {
            throw new NoSuchElementException("no popular one");
        }
        return finder.popularRow[applicant];
    }

    public int profile(int rank) throws IllegalArgumentException {
        requireNumber(rank, 1, LAST_RANK);
        return house.countRank(rank, hand);
    }

    public int bestProfile(int rank) throws IllegalArgumentException {
        requireNumber(rank, 1, LAST_RANK);
        finder.findBest(house);
        return house.countRank(rank, finder.bestRow);
    }

    public int bestPost(int applicant) throws IndexOutOfBoundsException {
        requireApplicant(applicant);
        finder.findBest(house);
        return finder.bestRow[applicant];
    }

    public boolean isSure(int applicant) throws IndexOutOfBoundsException {
        requireApplicant(applicant);
        return finder.mustServe(house, applicant);
    }

    public boolean gains(int applicant, int post) throws IndexOutOfBoundsException {
        requireApplicant(applicant);
        requirePost(post);
        finder.findBest(house);
        int bestLevel = house.levelOf(applicant, finder.bestRow[applicant]);
        return house.levelOf(applicant, post) < bestLevel && finder.servesAlone(house, applicant, post);
    }

    public boolean envies(int applicant, int other) throws IndexOutOfBoundsException {
        requireApplicant(applicant);
        requireApplicant(other);
        return wantsPostOf(applicant, other);
    }

    public int countEnvy() {
        int count = 0;
        for (int a = 0; a < house.applicants; a++) {
            for (int b = 0; b < house.applicants; b++) {
                if (wantsPostOf(a, b)) {
                    count++;
                }
            }
        }
        return count;
    }

    public float matchedShare() throws ArithmeticException {
        if (house.applicants == 0) {
            throw new ArithmeticException("no applicants");
        }
        return (float) countMatched() / (float) house.applicants;
    }

    public double meanRank() throws ArithmeticException {
        int matched = countMatched();
        if (matched == 0) {
            throw new ArithmeticException("nobody has a post");
        }
        int sum = 0;
        for (int a = 0; a < house.applicants; a++) {
            if (hand[a] != NO_POST) {
                sum += house.levelOf(a, hand[a]);
            }
        }
        return (double) sum / (double) matched;
    }

    public long checksum() {
        long sum = 7L;
        for (int a = 0; a < house.applicants; a++) {
            sum = 31L * sum + house.weights[a];
            for (int p = 0; p < house.posts; p++) {
                sum = 31L * sum + house.ranks[a][p];
            }
            sum = 31L * sum + hand[a];
        }
        for (int p = 0; p < house.posts; p++) {
            sum = 31L * sum + house.places[p];
        }
        for (int k = 0; k < keptCount; k++) {
            for (int a = 0; a < house.applicants; a++) {
                sum = 31L * sum + kept[k][a];
            }
        }
        return sum;
    }

    public boolean isTrue() {
        int worst = finder.findChallenger(house, hand);
        finder.findBest(house);
        return house.allows(hand)
            && house.allows(finder.bestRow)
            && house.allows(finder.challengerRow)
            && house.leadOf(finder.challengerRow, hand) == worst
            && greatestKeptLead(hand) <= worst
            && popularHolds();
    }

    private boolean popularHolds() {
        if (!house.hasLikeWeights() || !finder.findPopular(house)) {
            return true;
        }
        return greatestKeptLead(finder.popularRow) <= 0
            && house.leadOf(finder.bestRow, finder.popularRow) <= 0;
    }

    /** A kept one that is no matching by now may promise more than there is, so it is left out. */
    private int greatestKeptLead(int[] row) {
        int greatest = 0;
        for (int k = 0; k < keptCount; k++) {
            if (house.allows(kept[k])) {
                greatest = Math.max(greatest, house.leadOf(kept[k], row));
            }
        }
        return greatest;
    }

    private boolean wantsPostOf(int applicant, int other) {
        return house.levelOf(applicant, hand[other]) < house.levelOf(applicant, hand[applicant]);
    }

    private int countMatched() {
        int matched = 0;
        for (int a = 0; a < house.applicants; a++) {
            if (hand[a] != NO_POST) {
                matched++;
            }
        }
        return matched;
    }

    private int freePlaces(int post) {
        return house.places[post] - house.takersOf(post, hand);
    }

    private void dropUnlisted(int applicant) {
        if (!house.lists(applicant, hand[applicant])) {
            hand[applicant] = NO_POST;
        }
    }

    private int[] rowOf(int matching) {
        return matching >= 0 && matching < keptCount ? kept[matching] : hand;
    }

    private void requireNumber(int number, int least, int most) {
        if (number < least || number > most) {
            throw new IllegalArgumentException("number out of range");
        }
    }

    private void requireApplicant(int applicant) {
        if (applicant < 0 || applicant >= house.applicants) {
            throw new IndexOutOfBoundsException("no such applicant");
        }
    }

    private void requirePost(int post) {
        if (post < 0 || post >= house.posts) {
            throw new IndexOutOfBoundsException("no such post");
        }
    }

    private void requireKept(int matching) {
        if (matching < 0 || matching >= keptCount) {
            throw new IndexOutOfBoundsException("no such kept matching");
        }
    }

    private void requireMatching(int matching) {
        if (matching != IN_HAND) {
            requireKept(matching);
        }
    }

    private void requireLikeWeights() {
        if (!house.hasLikeWeights()) {
            throw new UnsupportedOperationException("weights are unlike");
        }
    }

    /** The applicants with their weights and lists, and the posts with their places. */
    private static final class House {
        int applicants = 0;
        int posts = 0;
        final int[] weights = new int[LIMIT];
        final int[] places = new int[LIMIT];
        final int[][] ranks = new int[LIMIT][LIMIT];
        final char[] text = new char[2 * LIMIT];
        private final int[] taken = new int[LIMIT];

        boolean lists(int applicant, int post) {
            return levelOf(applicant, post) != BEHIND_ALL_RANKS;
        }

        /** What an applicant compares by: a rank, or a number behind all ranks for what counts like none. */
        int levelOf(int applicant, int post) {
            if (post < 0 || post >= posts) {
                return BEHIND_ALL_RANKS;
            }
            int rank = ranks[applicant][post];
            return rank == 0 ? BEHIND_ALL_RANKS : rank;
        }

        boolean hasLikeWeights() {
            for (int a = 1; a < applicants; a++) {
                if (weights[a] != weights[0]) {
                    return false;
                }
            }
            return true;
        }

        int takersOf(int post, int[] row) {
            int takers = 0;
            for (int a = 0; a < applicants; a++) {
                if (row[a] == post) {
                    takers++;
                }
            }
            return takers;
        }

        /** Tells whether a row is a matching by the lists and places of now. */
        boolean allows(int[] row) {
            Arrays.fill(taken, 0);
            for (int a = 0; a < applicants; a++) {
                int post = row[a];
                if (post == NO_POST) {
                    continue;
                }
                if (!lists(a, post) || taken[post] >= places[post]) {
                    return false;
                }
                taken[post]++;
            }
            return true;
        }

        int weightFor(int[] row, int[] other) {
            int sum = 0;
            for (int a = 0; a < applicants; a++) {
                if (levelOf(a, row[a]) < levelOf(a, other[a])) {
                    sum += weights[a];
                }
            }
            return sum;
        }

        int leadOf(int[] row, int[] other) {
            return weightFor(row, other) - weightFor(other, row);
        }

        int countRank(int rank, int[] row) {
            int count = 0;
            for (int a = 0; a < applicants; a++) {
                if (levelOf(a, row[a]) == rank) {
                    count++;
                }
            }
            return count;
        }

        /** Writes the text of a list into the row kept for texts, and returns its length. */
        int writeText(int applicant) {
            int length = 0;
            for (int rank = 1; rank <= LAST_RANK; rank++) {
                boolean like = false;
                for (int post = 0; post < posts; post++) {
                    if (ranks[applicant][post] == rank) {
                        length = writePost(post, like, length);
                        like = true;
                    }
                }
            }
            return length;
        }

        private int writePost(int post, boolean like, int length) {
            int end = length;
            if (end > 0 && end < text.length) {
                text[end] = like ? '=' : '>';
                end++;
            }
            if (end < text.length) {
                text[end] = (char) ('a' + post);
                end++;
            }
            return end;
        }
    }

    /** The signs that are typed, and the ranks that they tell. */
    private static final class Typing {
        private static final int SIGNS = 20;

        int length = 0;
        final int[] ranks = new int[LIMIT];
        private final char[] signs = new char[SIGNS];

        static boolean knows(char sign) {
            return sign == '>' || sign == '=' || (sign >= 'a' && sign <= 'j');
        }

        boolean isFull() {
            return length >= SIGNS;
        }

        int append(char sign) {
            if (!isFull()) {
                signs[length] = sign;
                length++;
            }
            return length;
        }

        /** Reads what is typed into the row of ranks; returns how many posts it tells, 0 if it is no list. */
        int read(int posts) {
            Arrays.fill(ranks, 0);
            int rank = 1;
            for (int i = 0; i < length; i++) {
                char sign = signs[i];
                if (i % 2 == 0) {
                    int post = sign - 'a';
                    if (post < 0 || post >= posts || ranks[post] != 0) {
                        return 0;
                    }
                    ranks[post] = rank;
                } else if (sign == '>') {
                    rank++;
                } else if (sign != '=') {
                    return 0;
                }
            }
            // an even length is nothing, or a list that ends with a sign between
            return length % 2 == 0 || rank > LAST_RANK ? 0 : (length + 1) / 2;
        }
    }

    /** Which kept matching beats which one. */
    private static final class Agenda {
        private int count = 0;
        private final int[][] leads = new int[LIMIT][LIMIT];
        private final int[] steps = new int[LIMIT];

        void compare(House house, int[][] kept, int keptCount) {
            count = keptCount;
            for (int k = 0; k < count; k++) {
                for (int other = 0; other < k; other++) {
                    int lead = house.leadOf(kept[k], kept[other]);
                    leads[k][other] = lead;
                    leads[other][k] = -lead;
                }
            }
        }

        int firstUnbeaten() {
            for (int k = 0; k < count; k++) {
                if (!isBeaten(k)) {
                    return k;
                }
            }
            return -1;
        }

        private boolean isBeaten(int matching) {
            for (int k = 0; k < count; k++) {
                if (leads[k][matching] > 0) {
                    return true;
                }
            }
            return false;
        }

        /** The length of the shortest row, 0 if there is none; no shortest one is longer than there are kept ones. */
        int shortestRow(int from, int to) {
            Arrays.fill(steps, 0);
            stepFrom(from, 1);
            for (int length = 1; length < count && steps[to] == 0; length++) {
                for (int k = 0; k < count; k++) {
                    if (steps[k] == length) {
                        stepFrom(k, length + 1);
                    }
                }
            }
            return steps[to];
        }

        private void stepFrom(int matching, int length) {
            for (int k = 0; k < count; k++) {
                if (steps[k] == 0 && leads[k][matching] > 0) {
                    steps[k] = length;
                }
            }
        }
    }

    /**
     * Shares the posts out so that the sum of worths is the greatest, of like sums the first by order.
     * The column behind the last post stands for none, which has room for all.
     */
    private static final class Sharing {
        /** Less than any worth there is. */
        static final long CLOSED = 1L << 63;

        final long[][] worth = new long[LIMIT][LIMIT + 1];
        final int[] column = new int[LIMIT];
        final int[] used = new int[LIMIT + 1];
        private int none = 0;
        private final long[] reachWorth = new long[LIMIT + 1];
        private final long[] reachOrder = new long[LIMIT + 1];
        private final int[] mover = new int[LIMIT + 1];

        /** Returns the greatest sum of worths. The worth of none must be open to each applicant. */
        long share(House house) {
            none = house.posts;
            Arrays.fill(used, 0);
            Arrays.fill(column, NO_POST);
            for (int a = 0; a < house.applicants; a++) {
                reachAll(a);
                moveAlong(bestEnd(house));
            }
            long sum = 0L;
            for (int a = 0; a < house.applicants; a++) {
                if (column[a] >= 0) {
                    sum += worth[a][column[a]];
                }
            }
            return sum;
        }

        void copyTo(int[] row) {
            for (int a = 0; a < LIMIT; a++) {
                row[a] = column[a] >= none ? NO_POST : column[a];
            }
        }

        /** An earlier column, and for an earlier applicant, must weigh more than all that is behind it. */
        private long orderOf(int applicant, int at) {
            return ELEVENS[applicant] * (none - at);
        }

        /**
         * Finds for each column the best row of moves that starts with the newcomer and brings
         * one more into it. The ones before are shared out best, so no row gains by going round.
         */
        private void reachAll(int newcomer) {
            Arrays.fill(mover, -1);
            reachFrom(newcomer, 0L, 0L);
            boolean changed = true;
            for (int round = 0; round <= LIMIT + 1 && changed; round++) {
                changed = false;
                for (int a = 0; a < newcomer; a++) {
                    int at = column[a];
                    if (at >= 0 && mover[at] >= 0
                            && reachFrom(a, reachWorth[at] - worth[a][at], reachOrder[at] - orderOf(a, at))) {
                        changed = true;
                    }
                }
            }
        }

        private boolean reachFrom(int applicant, long baseWorth, long baseOrder) {
            boolean changed = false;
            for (int to = 0; to <= none; to++) {
                if (to == column[applicant] || worth[applicant][to] == CLOSED) {
                    continue;
                }
                long newWorth = baseWorth + worth[applicant][to];
                long newOrder = baseOrder + orderOf(applicant, to);
                if (mover[to] < 0 || isBetter(newWorth, newOrder, to)) {
                    reachWorth[to] = newWorth;
                    reachOrder[to] = newOrder;
                    mover[to] = applicant;
                    changed = true;
                }
            }
            return changed;
        }

        private boolean isBetter(long newWorth, long newOrder, int at) {
            return newWorth > reachWorth[at] || (newWorth == reachWorth[at] && newOrder > reachOrder[at]);
        }

        private int bestEnd(House house) {
            int best = none;
            for (int p = 0; p < none; p++) {
                if (mover[p] >= 0 && used[p] < house.places[p]
                        && isBetter(reachWorth[p], reachOrder[p], best)) {
                    best = p;
                }
            }
            return best;
        }

        private void moveAlong(int end) {
            used[end]++;
            int at = end;
            for (int step = 0; step <= LIMIT && at >= 0; step++) {
                int applicant = mover[at];
                if (applicant < 0) {
                    return;
                }
                int from = column[applicant];
                column[applicant] = at;
                at = from;
            }
        }
    }

    /** Finds the challenger, the best matching and the first popular one, each as the best sharing by some worths. */
    private static final class Finder {
        /** To leave one without what is due outweighs all first choices. */
        private static final long UNDUE = -100L;

        final int[] challengerRow = new int[LIMIT];
        final int[] bestRow = new int[LIMIT];
        final int[] popularRow = new int[LIMIT];
        private final Sharing sharing = new Sharing();
        private final int[] topRank = new int[LIMIT];
        private final boolean[] even = new boolean[LIMIT];

        /** Returns the greatest margin. */
        int findChallenger(House house, int[] hand) {
            for (int a = 0; a < house.applicants; a++) {
                int level = house.levelOf(a, hand[a]);
                long weight = house.weights[a];
                for (int p = 0; p < house.posts; p++) {
                    sharing.worth[a][p] = house.lists(a, p)
                        ? weight * Integer.compare(level, house.levelOf(a, p)) : Sharing.CLOSED;
                }
                sharing.worth[a][house.posts] = weight * Integer.compare(level, BEHIND_ALL_RANKS);
            }
            long margin = sharing.share(house);
            sharing.copyTo(challengerRow);
            return (int) margin;
        }

        void findBest(House house) {
            valueRanks(house);
            sharing.share(house);
            sharing.copyTo(bestRow);
        }

        /** Tells whether the profile gets worse if the applicant has none. */
        boolean mustServe(House house, int applicant) {
            valueRanks(house);
            long best = sharing.share(house);
            closePosts(house, applicant);
            return sharing.share(house) != best;
        }

        /** Tells whether the best matching gives the post to the applicant if its list has that post alone. */
        boolean servesAlone(House house, int applicant, int post) {
            valueRanks(house);
            closePosts(house, applicant);
            sharing.worth[applicant][post] = ELEVENS[1];
            sharing.share(house);
            return sharing.column[applicant] == post;
        }

        /**
         * Popular is what has as many first choices as there can be, and gives each applicant a first
         * choice or the best that is even: what some greatest sharing of first choices leaves a place of.
         */
        boolean findPopular(House house) {
            valueFirstChoices(house);
            long firstChoices = sharing.share(house);
            markEven(house);
            for (int a = 0; a < house.applicants; a++) {
                valuePopular(house, a);
            }
            boolean found = sharing.share(house) == firstChoices;
            sharing.copyTo(popularRow);
            return found;
        }

        private void valueRanks(House house) {
            for (int a = 0; a < house.applicants; a++) {
                for (int p = 0; p < house.posts; p++) {
                    int rank = house.ranks[a][p];
                    sharing.worth[a][p] = rank > 0 ? ELEVENS[rank] : Sharing.CLOSED;
                }
                sharing.worth[a][house.posts] = 0L;
            }
        }

        private void closePosts(House house, int applicant) {
            for (int p = 0; p < house.posts; p++) {
                sharing.worth[applicant][p] = Sharing.CLOSED;
            }
        }

        private void valueFirstChoices(House house) {
            for (int a = 0; a < house.applicants; a++) {
                int top = BEHIND_ALL_RANKS;
                for (int p = 0; p < house.posts; p++) {
                    top = Math.min(top, house.levelOf(a, p));
                }
                topRank[a] = top;
                for (int p = 0; p < house.posts; p++) {
                    sharing.worth[a][p] = isFirstChoice(house, a, p) ? 1L : Sharing.CLOSED;
                }
                sharing.worth[a][house.posts] = 0L;
            }
        }

        private boolean isFirstChoice(House house, int applicant, int post) {
            return house.ranks[applicant][post] == topRank[applicant];
        }

        /** A post is even if it has a free place, or if one who has it can go to an even one. */
        private void markEven(House house) {
            for (int p = 0; p < house.posts; p++) {
                even[p] = sharing.used[p] < house.places[p];
            }
            boolean changed = true;
            for (int round = 0; round <= LIMIT && changed; round++) {
                changed = false;
                for (int a = 0; a < house.applicants; a++) {
                    int at = sharing.column[a];
                    if (at >= 0 && at < house.posts && !even[at] && hasEvenFirstChoice(house, a)) {
                        even[at] = true;
                        changed = true;
                    }
                }
            }
        }

        private boolean hasEvenFirstChoice(House house, int applicant) {
            for (int p = 0; p < house.posts; p++) {
                if (even[p] && isFirstChoice(house, applicant, p)) {
                    return true;
                }
            }
            return false;
        }

        private void valuePopular(House house, int applicant) {
            int second = BEHIND_ALL_RANKS;
            for (int p = 0; p < house.posts; p++) {
                if (even[p]) {
                    second = Math.min(second, house.levelOf(applicant, p));
                }
            }
            long[] row = sharing.worth[applicant];
            for (int p = 0; p < house.posts; p++) {
                if (isFirstChoice(house, applicant, p)) {
                    row[p] = 1L;
                } else {
                    row[p] = even[p] && house.ranks[applicant][p] == second ? 0L : Sharing.CLOSED;
                }
            }
            row[house.posts] = second == BEHIND_ALL_RANKS ? 0L : UNDUE;
        }
    }
}
